section
theorem dX10_isChain_0 : decode cX10_isChain 0 = .ok (.iconst 0, 1) := by decide +kernel
theorem dX10_isChain_1 : decode cX10_isChain 1 = .ok (.istore_n 3, 1) := by decide +kernel
theorem dX10_isChain_2 : decode cX10_isChain 2 = .ok (.iload_n 3, 1) := by decide +kernel
theorem dX10_isChain_3 : decode cX10_isChain 3 = .ok (.sipush 1500, 3) := by decide +kernel
theorem dX10_isChain_6 : decode cX10_isChain 6 = .ok (.if_icmp .ge 98, 3) := by decide +kernel
theorem dX10_isChain_9 : decode cX10_isChain 9 = .ok (.iload_n 1, 1) := by decide +kernel
theorem dX10_isChain_10 : decode cX10_isChain 10 = .ok (.getstatic 122, 3) := by decide +kernel
theorem dX10_isChain_13 : decode cX10_isChain 13 = .ok (.arraylength, 1) := by decide +kernel
theorem dX10_isChain_14 : decode cX10_isChain 14 = .ok (.if_icmp .ge 90, 3) := by decide +kernel
theorem dX10_isChain_17 : decode cX10_isChain 17 = .ok (.aload_n 0, 1) := by decide +kernel
theorem dX10_isChain_18 : decode cX10_isChain 18 = .ok (.getfield 89, 3) := by decide +kernel
theorem dX10_isChain_21 : decode cX10_isChain 21 = .ok (.istore 4, 2) := by decide +kernel
theorem dX10_isChain_23 : decode cX10_isChain 23 = .ok (.iload_n 1, 1) := by decide +kernel
theorem dX10_isChain_24 : decode cX10_isChain 24 = .ok (.getstatic 122, 3) := by decide +kernel
theorem dX10_isChain_27 : decode cX10_isChain 27 = .ok (.arraylength, 1) := by decide +kernel
theorem dX10_isChain_28 : decode cX10_isChain 28 = .ok (.iconst 1, 1) := by decide +kernel
theorem dX10_isChain_29 : decode cX10_isChain 29 = .ok (.isub, 1) := by decide +kernel
theorem dX10_isChain_30 : decode cX10_isChain 30 = .ok (.if_icmp .ne 11, 3) := by decide +kernel
theorem dX10_isChain_33 : decode cX10_isChain 33 = .ok (.aload_n 0, 1) := by decide +kernel
theorem dX10_isChain_34 : decode cX10_isChain 34 = .ok (.iload_n 2, 1) := by decide +kernel
theorem dX10_isChain_35 : decode cX10_isChain 35 = .ok (.invokevirtual 125, 3) := by decide +kernel
theorem dX10_isChain_38 : decode cX10_isChain 38 = .ok (.goto 11, 3) := by decide +kernel
theorem dX10_isChain_41 : decode cX10_isChain 41 = .ok (.aload_n 0, 1) := by decide +kernel
theorem dX10_isChain_42 : decode cX10_isChain 42 = .ok (.iload_n 1, 1) := by decide +kernel
theorem dX10_isChain_43 : decode cX10_isChain 43 = .ok (.iconst 1, 1) := by decide +kernel
theorem dX10_isChain_44 : decode cX10_isChain 44 = .ok (.iadd, 1) := by decide +kernel
theorem dX10_isChain_45 : decode cX10_isChain 45 = .ok (.iload_n 2, 1) := by decide +kernel
theorem dX10_isChain_46 : decode cX10_isChain 46 = .ok (.invokevirtual 108, 3) := by decide +kernel
theorem dX10_isChain_49 : decode cX10_isChain 49 = .ok (.istore 5, 2) := by decide +kernel
theorem dX10_isChain_51 : decode cX10_isChain 51 = .ok (.iload 5, 2) := by decide +kernel
theorem dX10_isChain_53 : decode cX10_isChain 53 = .ok (.ifCond .ne 5, 3) := by decide +kernel
theorem dX10_isChain_56 : decode cX10_isChain 56 = .ok (.iconst 0, 1) := by decide +kernel
theorem dX10_isChain_57 : decode cX10_isChain 57 = .ok (.ireturn, 1) := by decide +kernel
theorem dX10_isChain_58 : decode cX10_isChain 58 = .ok (.aload_n 0, 1) := by decide +kernel
theorem dX10_isChain_59 : decode cX10_isChain 59 = .ok (.invokevirtual 115, 3) := by decide +kernel
theorem dX10_isChain_62 : decode cX10_isChain 62 = .ok (.getstatic 122, 3) := by decide +kernel
theorem dX10_isChain_65 : decode cX10_isChain 65 = .ok (.iload_n 1, 1) := by decide +kernel
theorem dX10_isChain_66 : decode cX10_isChain 66 = .ok (.iaload, 1) := by decide +kernel
theorem dX10_isChain_67 : decode cX10_isChain 67 = .ok (.if_icmp .eq 5, 3) := by decide +kernel
theorem dX10_isChain_70 : decode cX10_isChain 70 = .ok (.iconst 1, 1) := by decide +kernel
theorem dX10_isChain_71 : decode cX10_isChain 71 = .ok (.ireturn, 1) := by decide +kernel
theorem dX10_isChain_72 : decode cX10_isChain 72 = .ok (.aload_n 0, 1) := by decide +kernel
theorem dX10_isChain_73 : decode cX10_isChain 73 = .ok (.dup, 1) := by decide +kernel
theorem dX10_isChain_74 : decode cX10_isChain 74 = .ok (.getfield 83, 3) := by decide +kernel
theorem dX10_isChain_77 : decode cX10_isChain 77 = .ok (.iconst 1, 1) := by decide +kernel
theorem dX10_isChain_78 : decode cX10_isChain 78 = .ok (.iadd, 1) := by decide +kernel
theorem dX10_isChain_79 : decode cX10_isChain 79 = .ok (.putfield 83, 3) := by decide +kernel
theorem dX10_isChain_82 : decode cX10_isChain 82 = .ok (.aload_n 0, 1) := by decide +kernel
theorem dX10_isChain_83 : decode cX10_isChain 83 = .ok (.iload 4, 2) := by decide +kernel
theorem dX10_isChain_85 : decode cX10_isChain 85 = .ok (.getstatic 128, 3) := by decide +kernel
theorem dX10_isChain_88 : decode cX10_isChain 88 = .ok (.iload_n 1, 1) := by decide +kernel
theorem dX10_isChain_89 : decode cX10_isChain 89 = .ok (.iaload, 1) := by decide +kernel
theorem dX10_isChain_90 : decode cX10_isChain 90 = .ok (.invokevirtual 131, 3) := by decide +kernel
theorem dX10_isChain_93 : decode cX10_isChain 93 = .ok (.ifCond .ne 5, 3) := by decide +kernel
theorem dX10_isChain_96 : decode cX10_isChain 96 = .ok (.iconst 0, 1) := by decide +kernel
theorem dX10_isChain_97 : decode cX10_isChain 97 = .ok (.ireturn, 1) := by decide +kernel
theorem dX10_isChain_98 : decode cX10_isChain 98 = .ok (.iinc 3 1, 3) := by decide +kernel
theorem dX10_isChain_101 : decode cX10_isChain 101 = .ok (.goto (-99), 3) := by decide +kernel
theorem dX10_isChain_104 : decode cX10_isChain 104 = .ok (.iconst 0, 1) := by decide +kernel
theorem dX10_isChain_105 : decode cX10_isChain 105 = .ok (.ireturn, 1) := by decide +kernel
theorem dX10_isOne_0 : decode cX10_isOne 0 = .ok (.aload_n 0, 1) := by decide +kernel
theorem dX10_isOne_1 : decode cX10_isOne 1 = .ok (.invokevirtual 115, 3) := by decide +kernel
theorem dX10_isOne_4 : decode cX10_isOne 4 = .ok (.istore_n 2, 1) := by decide +kernel
theorem dX10_isOne_5 : decode cX10_isOne 5 = .ok (.aload_n 0, 1) := by decide +kernel
theorem dX10_isOne_6 : decode cX10_isOne 6 = .ok (.invokevirtual 119, 3) := by decide +kernel
theorem dX10_isOne_9 : decode cX10_isOne 9 = .ok (.istore_n 3, 1) := by decide +kernel
theorem dX10_isOne_10 : decode cX10_isOne 10 = .ok (.iload_n 2, 1) := by decide +kernel
theorem dX10_isOne_11 : decode cX10_isOne 11 = .ok (.bipush 126, 2) := by decide +kernel
theorem dX10_isOne_13 : decode cX10_isOne 13 = .ok (.if_icmp .ne 51, 3) := by decide +kernel
theorem dX10_isOne_16 : decode cX10_isOne 16 = .ok (.aload_n 0, 1) := by decide +kernel
theorem dX10_isOne_17 : decode cX10_isOne 17 = .ok (.dup, 1) := by decide +kernel
theorem dX10_isOne_18 : decode cX10_isOne 18 = .ok (.getfield 83, 3) := by decide +kernel
theorem dX10_isOne_21 : decode cX10_isOne 21 = .ok (.iconst 1, 1) := by decide +kernel
theorem dX10_isOne_22 : decode cX10_isOne 22 = .ok (.iadd, 1) := by decide +kernel
theorem dX10_isOne_23 : decode cX10_isOne 23 = .ok (.putfield 83, 3) := by decide +kernel
theorem dX10_isOne_26 : decode cX10_isOne 26 = .ok (.iload_n 1, 1) := by decide +kernel
theorem dX10_isOne_27 : decode cX10_isOne 27 = .ok (.bipush 12, 2) := by decide +kernel
theorem dX10_isOne_29 : decode cX10_isOne 29 = .ok (.if_icmp .ge 33, 3) := by decide +kernel
theorem dX10_isOne_32 : decode cX10_isOne 32 = .ok (.aload_n 0, 1) := by decide +kernel
theorem dX10_isOne_33 : decode cX10_isOne 33 = .ok (.iconst 1, 1) := by decide +kernel
theorem dX10_isOne_34 : decode cX10_isOne 34 = .ok (.invokevirtual 134, 3) := by decide +kernel
theorem dX10_isOne_37 : decode cX10_isOne 37 = .ok (.ifCond .eq 25, 3) := by decide +kernel
theorem dX10_isOne_40 : decode cX10_isOne 40 = .ok (.aload_n 0, 1) := by decide +kernel
theorem dX10_isOne_41 : decode cX10_isOne 41 = .ok (.iload_n 1, 1) := by decide +kernel
theorem dX10_isOne_42 : decode cX10_isOne 42 = .ok (.iconst 1, 1) := by decide +kernel
theorem dX10_isOne_43 : decode cX10_isOne 43 = .ok (.iadd, 1) := by decide +kernel
theorem dX10_isOne_44 : decode cX10_isOne 44 = .ok (.invokevirtual 125, 3) := by decide +kernel
theorem dX10_isOne_47 : decode cX10_isOne 47 = .ok (.ifCond .eq 15, 3) := by decide +kernel
theorem dX10_isOne_50 : decode cX10_isOne 50 = .ok (.aload_n 0, 1) := by decide +kernel
theorem dX10_isOne_51 : decode cX10_isOne 51 = .ok (.iconst 0, 1) := by decide +kernel
theorem dX10_isOne_52 : decode cX10_isOne 52 = .ok (.invokevirtual 134, 3) := by decide +kernel
theorem dX10_isOne_55 : decode cX10_isOne 55 = .ok (.ifCond .eq 7, 3) := by decide +kernel
theorem dX10_isOne_58 : decode cX10_isOne 58 = .ok (.iconst 1, 1) := by decide +kernel
theorem dX10_isOne_59 : decode cX10_isOne 59 = .ok (.goto 4, 3) := by decide +kernel
theorem dX10_isOne_62 : decode cX10_isOne 62 = .ok (.iconst 0, 1) := by decide +kernel
theorem dX10_isOne_63 : decode cX10_isOne 63 = .ok (.ireturn, 1) := by decide +kernel
theorem dX10_isOne_64 : decode cX10_isOne 64 = .ok (.iload_n 2, 1) := by decide +kernel
theorem dX10_isOne_65 : decode cX10_isOne 65 = .ok (.bipush 40, 2) := by decide +kernel
theorem dX10_isOne_67 : decode cX10_isOne 67 = .ok (.if_icmp .ne 45, 3) := by decide +kernel
theorem dX10_isOne_70 : decode cX10_isOne 70 = .ok (.aload_n 0, 1) := by decide +kernel
theorem dX10_isOne_71 : decode cX10_isOne 71 = .ok (.dup, 1) := by decide +kernel
theorem dX10_isOne_72 : decode cX10_isOne 72 = .ok (.getfield 83, 3) := by decide +kernel
theorem dX10_isOne_75 : decode cX10_isOne 75 = .ok (.iconst 1, 1) := by decide +kernel
theorem dX10_isOne_76 : decode cX10_isOne 76 = .ok (.iadd, 1) := by decide +kernel
theorem dX10_isOne_77 : decode cX10_isOne 77 = .ok (.putfield 83, 3) := by decide +kernel
theorem dX10_isOne_80 : decode cX10_isOne 80 = .ok (.iload_n 1, 1) := by decide +kernel
theorem dX10_isOne_81 : decode cX10_isOne 81 = .ok (.bipush 12, 2) := by decide +kernel
theorem dX10_isOne_83 : decode cX10_isOne 83 = .ok (.if_icmp .ge 27, 3) := by decide +kernel
theorem dX10_isOne_86 : decode cX10_isOne 86 = .ok (.aload_n 0, 1) := by decide +kernel
theorem dX10_isOne_87 : decode cX10_isOne 87 = .ok (.iconst 0, 1) := by decide +kernel
theorem dX10_isOne_88 : decode cX10_isOne 88 = .ok (.iload_n 1, 1) := by decide +kernel
theorem dX10_isOne_89 : decode cX10_isOne 89 = .ok (.iconst 1, 1) := by decide +kernel
theorem dX10_isOne_90 : decode cX10_isOne 90 = .ok (.iadd, 1) := by decide +kernel
theorem dX10_isOne_91 : decode cX10_isOne 91 = .ok (.invokevirtual 108, 3) := by decide +kernel
theorem dX10_isOne_94 : decode cX10_isOne 94 = .ok (.ifCond .eq 16, 3) := by decide +kernel
theorem dX10_isOne_97 : decode cX10_isOne 97 = .ok (.aload_n 0, 1) := by decide +kernel
theorem dX10_isOne_98 : decode cX10_isOne 98 = .ok (.bipush 41, 2) := by decide +kernel
theorem dX10_isOne_100 : decode cX10_isOne 100 = .ok (.invokevirtual 105, 3) := by decide +kernel
theorem dX10_isOne_103 : decode cX10_isOne 103 = .ok (.ifCond .eq 7, 3) := by decide +kernel
theorem dX10_isOne_106 : decode cX10_isOne 106 = .ok (.iconst 1, 1) := by decide +kernel
theorem dX10_isOne_107 : decode cX10_isOne 107 = .ok (.goto 4, 3) := by decide +kernel
theorem dX10_isOne_110 : decode cX10_isOne 110 = .ok (.iconst 0, 1) := by decide +kernel
theorem dX10_isOne_111 : decode cX10_isOne 111 = .ok (.ireturn, 1) := by decide +kernel
theorem dX10_isOne_112 : decode cX10_isOne 112 = .ok (.iload_n 3, 1) := by decide +kernel
theorem dX10_isOne_113 : decode cX10_isOne 113 = .ok (.ifCond .eq 8, 3) := by decide +kernel
theorem dX10_isOne_116 : decode cX10_isOne 116 = .ok (.iload_n 3, 1) := by decide +kernel
theorem dX10_isOne_117 : decode cX10_isOne 117 = .ok (.iconst 1, 1) := by decide +kernel
theorem dX10_isOne_118 : decode cX10_isOne 118 = .ok (.if_icmp .ne 94, 3) := by decide +kernel
theorem dX10_isOne_121 : decode cX10_isOne 121 = .ok (.aload_n 0, 1) := by decide +kernel
theorem dX10_isOne_122 : decode cX10_isOne 122 = .ok (.dup, 1) := by decide +kernel
theorem dX10_isOne_123 : decode cX10_isOne 123 = .ok (.getfield 83, 3) := by decide +kernel
theorem dX10_isOne_126 : decode cX10_isOne 126 = .ok (.iconst 1, 1) := by decide +kernel
theorem dX10_isOne_127 : decode cX10_isOne 127 = .ok (.iadd, 1) := by decide +kernel
theorem dX10_isOne_128 : decode cX10_isOne 128 = .ok (.putfield 83, 3) := by decide +kernel
theorem dX10_isOne_131 : decode cX10_isOne 131 = .ok (.aload_n 0, 1) := by decide +kernel
theorem dX10_isOne_132 : decode cX10_isOne 132 = .ok (.invokevirtual 119, 3) := by decide +kernel
theorem dX10_isOne_135 : decode cX10_isOne 135 = .ok (.istore 4, 2) := by decide +kernel
theorem dX10_isOne_137 : decode cX10_isOne 137 = .ok (.iload_n 3, 1) := by decide +kernel
theorem dX10_isOne_138 : decode cX10_isOne 138 = .ok (.ifCond .ne 7, 3) := by decide +kernel
theorem dX10_isOne_141 : decode cX10_isOne 141 = .ok (.iconst 5, 1) := by decide +kernel
theorem dX10_isOne_142 : decode cX10_isOne 142 = .ok (.goto 5, 3) := by decide +kernel
theorem dX10_isOne_145 : decode cX10_isOne 145 = .ok (.bipush 6, 2) := by decide +kernel
theorem dX10_isOne_147 : decode cX10_isOne 147 = .ok (.iload 4, 2) := by decide +kernel
theorem dX10_isOne_149 : decode cX10_isOne 149 = .ok (.bipush 15, 2) := by decide +kernel
theorem dX10_isOne_151 : decode cX10_isOne 151 = .ok (.ishl, 1) := by decide +kernel
theorem dX10_isOne_152 : decode cX10_isOne 152 = .ok (.ior, 1) := by decide +kernel
theorem dX10_isOne_153 : decode cX10_isOne 153 = .ok (.istore 5, 2) := by decide +kernel
theorem dX10_isOne_155 : decode cX10_isOne 155 = .ok (.aload_n 0, 1) := by decide +kernel
theorem dX10_isOne_156 : decode cX10_isOne 156 = .ok (.dup, 1) := by decide +kernel
theorem dX10_isOne_157 : decode cX10_isOne 157 = .ok (.getfield 83, 3) := by decide +kernel
theorem dX10_isOne_160 : decode cX10_isOne 160 = .ok (.iconst 1, 1) := by decide +kernel
theorem dX10_isOne_161 : decode cX10_isOne 161 = .ok (.iadd, 1) := by decide +kernel
theorem dX10_isOne_162 : decode cX10_isOne 162 = .ok (.putfield 83, 3) := by decide +kernel
theorem dX10_isOne_165 : decode cX10_isOne 165 = .ok (.iload_n 1, 1) := by decide +kernel
theorem dX10_isOne_166 : decode cX10_isOne 166 = .ok (.bipush 12, 2) := by decide +kernel
theorem dX10_isOne_168 : decode cX10_isOne 168 = .ok (.if_icmp .ge 42, 3) := by decide +kernel
theorem dX10_isOne_171 : decode cX10_isOne 171 = .ok (.iload 4, 2) := by decide +kernel
theorem dX10_isOne_173 : decode cX10_isOne 173 = .ok (.iconst 2, 1) := by decide +kernel
theorem dX10_isOne_174 : decode cX10_isOne 174 = .ok (.if_icmp .le 36, 3) := by decide +kernel
theorem dX10_isOne_177 : decode cX10_isOne 177 = .ok (.aload_n 0, 1) := by decide +kernel
theorem dX10_isOne_178 : decode cX10_isOne 178 = .ok (.bipush 44, 2) := by decide +kernel
theorem dX10_isOne_180 : decode cX10_isOne 180 = .ok (.invokevirtual 105, 3) := by decide +kernel
theorem dX10_isOne_183 : decode cX10_isOne 183 = .ok (.ifCond .eq 27, 3) := by decide +kernel
theorem dX10_isOne_186 : decode cX10_isOne 186 = .ok (.aload_n 0, 1) := by decide +kernel
theorem dX10_isOne_187 : decode cX10_isOne 187 = .ok (.iload 5, 2) := by decide +kernel
theorem dX10_isOne_189 : decode cX10_isOne 189 = .ok (.invokevirtual 134, 3) := by decide +kernel
theorem dX10_isOne_192 : decode cX10_isOne 192 = .ok (.ifCond .eq 18, 3) := by decide +kernel
theorem dX10_isOne_195 : decode cX10_isOne 195 = .ok (.aload_n 0, 1) := by decide +kernel
theorem dX10_isOne_196 : decode cX10_isOne 196 = .ok (.iconst 0, 1) := by decide +kernel
theorem dX10_isOne_197 : decode cX10_isOne 197 = .ok (.iload_n 1, 1) := by decide +kernel
theorem dX10_isOne_198 : decode cX10_isOne 198 = .ok (.iconst 1, 1) := by decide +kernel
theorem dX10_isOne_199 : decode cX10_isOne 199 = .ok (.iadd, 1) := by decide +kernel
theorem dX10_isOne_200 : decode cX10_isOne 200 = .ok (.invokevirtual 108, 3) := by decide +kernel
theorem dX10_isOne_203 : decode cX10_isOne 203 = .ok (.ifCond .eq 7, 3) := by decide +kernel
theorem dX10_isOne_206 : decode cX10_isOne 206 = .ok (.iconst 1, 1) := by decide +kernel
theorem dX10_isOne_207 : decode cX10_isOne 207 = .ok (.goto 4, 3) := by decide +kernel
theorem dX10_isOne_210 : decode cX10_isOne 210 = .ok (.iconst 0, 1) := by decide +kernel
theorem dX10_isOne_211 : decode cX10_isOne 211 = .ok (.ireturn, 1) := by decide +kernel
theorem dX10_isOne_212 : decode cX10_isOne 212 = .ok (.iload_n 3, 1) := by decide +kernel
theorem dX10_isOne_213 : decode cX10_isOne 213 = .ok (.iconst 2, 1) := by decide +kernel
theorem dX10_isOne_214 : decode cX10_isOne 214 = .ok (.if_icmp .ne 19, 3) := by decide +kernel
theorem dX10_isOne_217 : decode cX10_isOne 217 = .ok (.aload_n 0, 1) := by decide +kernel
theorem dX10_isOne_218 : decode cX10_isOne 218 = .ok (.dup, 1) := by decide +kernel
theorem dX10_isOne_219 : decode cX10_isOne 219 = .ok (.getfield 83, 3) := by decide +kernel
theorem dX10_isOne_222 : decode cX10_isOne 222 = .ok (.iconst 1, 1) := by decide +kernel
theorem dX10_isOne_223 : decode cX10_isOne 223 = .ok (.iadd, 1) := by decide +kernel
theorem dX10_isOne_224 : decode cX10_isOne 224 = .ok (.putfield 83, 3) := by decide +kernel
theorem dX10_isOne_227 : decode cX10_isOne 227 = .ok (.aload_n 0, 1) := by decide +kernel
theorem dX10_isOne_228 : decode cX10_isOne 228 = .ok (.iconst 0, 1) := by decide +kernel
theorem dX10_isOne_229 : decode cX10_isOne 229 = .ok (.invokevirtual 134, 3) := by decide +kernel
theorem dX10_isOne_232 : decode cX10_isOne 232 = .ok (.ireturn, 1) := by decide +kernel
theorem dX10_isOne_233 : decode cX10_isOne 233 = .ok (.aload_n 0, 1) := by decide +kernel
theorem dX10_isOne_234 : decode cX10_isOne 234 = .ok (.getfield 89, 3) := by decide +kernel
theorem dX10_isOne_237 : decode cX10_isOne 237 = .ok (.istore 4, 2) := by decide +kernel
theorem dX10_isOne_239 : decode cX10_isOne 239 = .ok (.aload_n 0, 1) := by decide +kernel
theorem dX10_isOne_240 : decode cX10_isOne 240 = .ok (.bipush 7, 2) := by decide +kernel
theorem dX10_isOne_242 : decode cX10_isOne 242 = .ok (.iload_n 1, 1) := by decide +kernel
theorem dX10_isOne_243 : decode cX10_isOne 243 = .ok (.invokevirtual 112, 3) := by decide +kernel
theorem dX10_isOne_246 : decode cX10_isOne 246 = .ok (.ifCond .ne 5, 3) := by decide +kernel
theorem dX10_isOne_249 : decode cX10_isOne 249 = .ok (.iconst 0, 1) := by decide +kernel
theorem dX10_isOne_250 : decode cX10_isOne 250 = .ok (.ireturn, 1) := by decide +kernel
theorem dX10_isOne_251 : decode cX10_isOne 251 = .ok (.aload_n 0, 1) := by decide +kernel
theorem dX10_isOne_252 : decode cX10_isOne 252 = .ok (.invokevirtual 115, 3) := by decide +kernel
theorem dX10_isOne_255 : decode cX10_isOne 255 = .ok (.bipush 61, 2) := by decide +kernel
theorem dX10_isOne_257 : decode cX10_isOne 257 = .ok (.if_icmp .eq 5, 3) := by decide +kernel
theorem dX10_isOne_260 : decode cX10_isOne 260 = .ok (.iconst 1, 1) := by decide +kernel
theorem dX10_isOne_261 : decode cX10_isOne 261 = .ok (.ireturn, 1) := by decide +kernel
theorem dX10_isOne_262 : decode cX10_isOne 262 = .ok (.aload_n 0, 1) := by decide +kernel
theorem dX10_isOne_263 : decode cX10_isOne 263 = .ok (.dup, 1) := by decide +kernel
theorem dX10_isOne_264 : decode cX10_isOne 264 = .ok (.getfield 83, 3) := by decide +kernel
theorem dX10_isOne_267 : decode cX10_isOne 267 = .ok (.iconst 1, 1) := by decide +kernel
theorem dX10_isOne_268 : decode cX10_isOne 268 = .ok (.iadd, 1) := by decide +kernel
theorem dX10_isOne_269 : decode cX10_isOne 269 = .ok (.putfield 83, 3) := by decide +kernel
theorem dX10_isOne_272 : decode cX10_isOne 272 = .ok (.aload_n 0, 1) := by decide +kernel
theorem dX10_isOne_273 : decode cX10_isOne 273 = .ok (.getfield 21, 3) := by decide +kernel
theorem dX10_isOne_276 : decode cX10_isOne 276 = .ok (.iload 4, 2) := by decide +kernel
theorem dX10_isOne_278 : decode cX10_isOne 278 = .ok (.dup2, 1) := by decide +kernel
theorem dX10_isOne_279 : decode cX10_isOne 279 = .ok (.iaload, 1) := by decide +kernel
theorem dX10_isOne_280 : decode cX10_isOne 280 = .ok (.iconst 1, 1) := by decide +kernel
theorem dX10_isOne_281 : decode cX10_isOne 281 = .ok (.iadd, 1) := by decide +kernel
theorem dX10_isOne_282 : decode cX10_isOne 282 = .ok (.iastore, 1) := by decide +kernel
theorem dX10_isOne_283 : decode cX10_isOne 283 = .ok (.aload_n 0, 1) := by decide +kernel
theorem dX10_isOne_284 : decode cX10_isOne 284 = .ok (.iload 4, 2) := by decide +kernel
theorem dX10_isOne_286 : decode cX10_isOne 286 = .ok (.iconst 4, 1) := by decide +kernel
theorem dX10_isOne_287 : decode cX10_isOne 287 = .ok (.invokevirtual 131, 3) := by decide +kernel
theorem dX10_isOne_290 : decode cX10_isOne 290 = .ok (.ifCond .eq 17, 3) := by decide +kernel
theorem dX10_isOne_293 : decode cX10_isOne 293 = .ok (.aload_n 0, 1) := by decide +kernel
theorem dX10_isOne_294 : decode cX10_isOne 294 = .ok (.bipush 8, 2) := by decide +kernel
theorem dX10_isOne_296 : decode cX10_isOne 296 = .ok (.iload_n 1, 1) := by decide +kernel
theorem dX10_isOne_297 : decode cX10_isOne 297 = .ok (.invokevirtual 112, 3) := by decide +kernel
theorem dX10_isOne_300 : decode cX10_isOne 300 = .ok (.ifCond .eq 7, 3) := by decide +kernel
theorem dX10_isOne_303 : decode cX10_isOne 303 = .ok (.iconst 1, 1) := by decide +kernel
theorem dX10_isOne_304 : decode cX10_isOne 304 = .ok (.goto 4, 3) := by decide +kernel
theorem dX10_isOne_307 : decode cX10_isOne 307 = .ok (.iconst 0, 1) := by decide +kernel
theorem dX10_isOne_308 : decode cX10_isOne 308 = .ok (.ireturn, 1) := by decide +kernel
theorem dX10_isTerm_0 : decode cX10_isTerm 0 = .ok (.aload_n 0, 1) := by decide +kernel
theorem dX10_isTerm_1 : decode cX10_isTerm 1 = .ok (.getfield 89, 3) := by decide +kernel
theorem dX10_isTerm_4 : decode cX10_isTerm 4 = .ok (.istore_n 3, 1) := by decide +kernel
theorem dX10_isTerm_5 : decode cX10_isTerm 5 = .ok (.aload_n 0, 1) := by decide +kernel
theorem dX10_isTerm_6 : decode cX10_isTerm 6 = .ok (.invokevirtual 119, 3) := by decide +kernel
theorem dX10_isTerm_9 : decode cX10_isTerm 9 = .ok (.istore 4, 2) := by decide +kernel
theorem dX10_isTerm_11 : decode cX10_isTerm 11 = .ok (.aload_n 0, 1) := by decide +kernel
theorem dX10_isTerm_12 : decode cX10_isTerm 12 = .ok (.dup, 1) := by decide +kernel
theorem dX10_isTerm_13 : decode cX10_isTerm 13 = .ok (.getfield 83, 3) := by decide +kernel
theorem dX10_isTerm_16 : decode cX10_isTerm 16 = .ok (.iconst 1, 1) := by decide +kernel
theorem dX10_isTerm_17 : decode cX10_isTerm 17 = .ok (.iadd, 1) := by decide +kernel
theorem dX10_isTerm_18 : decode cX10_isTerm 18 = .ok (.putfield 83, 3) := by decide +kernel
theorem dX10_isTerm_21 : decode cX10_isTerm 21 = .ok (.iload 4, 2) := by decide +kernel
theorem dX10_isTerm_23 : decode cX10_isTerm 23 = .ok (.iconst 2, 1) := by decide +kernel
theorem dX10_isTerm_24 : decode cX10_isTerm 24 = .ok (.if_icmp .le 17, 3) := by decide +kernel
theorem dX10_isTerm_27 : decode cX10_isTerm 27 = .ok (.aload_n 0, 1) := by decide +kernel
theorem dX10_isTerm_28 : decode cX10_isTerm 28 = .ok (.iload_n 1, 1) := by decide +kernel
theorem dX10_isTerm_29 : decode cX10_isTerm 29 = .ok (.iload 4, 2) := by decide +kernel
theorem dX10_isTerm_31 : decode cX10_isTerm 31 = .ok (.bipush 15, 2) := by decide +kernel
theorem dX10_isTerm_33 : decode cX10_isTerm 33 = .ok (.ishl, 1) := by decide +kernel
theorem dX10_isTerm_34 : decode cX10_isTerm 34 = .ok (.ior, 1) := by decide +kernel
theorem dX10_isTerm_35 : decode cX10_isTerm 35 = .ok (.invokevirtual 134, 3) := by decide +kernel
theorem dX10_isTerm_38 : decode cX10_isTerm 38 = .ok (.ifCond .ne 5, 3) := by decide +kernel
theorem dX10_isTerm_41 : decode cX10_isTerm 41 = .ok (.iconst 0, 1) := by decide +kernel
theorem dX10_isTerm_42 : decode cX10_isTerm 42 = .ok (.ireturn, 1) := by decide +kernel
theorem dX10_isTerm_43 : decode cX10_isTerm 43 = .ok (.aload_n 0, 1) := by decide +kernel
theorem dX10_isTerm_44 : decode cX10_isTerm 44 = .ok (.invokevirtual 115, 3) := by decide +kernel
theorem dX10_isTerm_47 : decode cX10_isTerm 47 = .ok (.bipush 40, 2) := by decide +kernel
theorem dX10_isTerm_49 : decode cX10_isTerm 49 = .ok (.if_icmp .eq 5, 3) := by decide +kernel
theorem dX10_isTerm_52 : decode cX10_isTerm 52 = .ok (.iconst 1, 1) := by decide +kernel
theorem dX10_isTerm_53 : decode cX10_isTerm 53 = .ok (.ireturn, 1) := by decide +kernel
theorem dX10_isTerm_54 : decode cX10_isTerm 54 = .ok (.iload_n 2, 1) := by decide +kernel
theorem dX10_isTerm_55 : decode cX10_isTerm 55 = .ok (.bipush 12, 2) := by decide +kernel
theorem dX10_isTerm_57 : decode cX10_isTerm 57 = .ok (.if_icmp .lt 5, 3) := by decide +kernel
theorem dX10_isTerm_60 : decode cX10_isTerm 60 = .ok (.iconst 0, 1) := by decide +kernel
theorem dX10_isTerm_61 : decode cX10_isTerm 61 = .ok (.ireturn, 1) := by decide +kernel
theorem dX10_isTerm_62 : decode cX10_isTerm 62 = .ok (.iconst 1, 1) := by decide +kernel
theorem dX10_isTerm_63 : decode cX10_isTerm 63 = .ok (.istore 5, 2) := by decide +kernel
theorem dX10_isTerm_65 : decode cX10_isTerm 65 = .ok (.iload 5, 2) := by decide +kernel
theorem dX10_isTerm_67 : decode cX10_isTerm 67 = .ok (.sipush 2047, 3) := by decide +kernel
theorem dX10_isTerm_70 : decode cX10_isTerm 70 = .ok (.if_icmp .gt 62, 3) := by decide +kernel
theorem dX10_isTerm_73 : decode cX10_isTerm 73 = .ok (.aload_n 0, 1) := by decide +kernel
theorem dX10_isTerm_74 : decode cX10_isTerm 74 = .ok (.dup, 1) := by decide +kernel
theorem dX10_isTerm_75 : decode cX10_isTerm 75 = .ok (.getfield 83, 3) := by decide +kernel
theorem dX10_isTerm_78 : decode cX10_isTerm 78 = .ok (.iconst 1, 1) := by decide +kernel
theorem dX10_isTerm_79 : decode cX10_isTerm 79 = .ok (.iadd, 1) := by decide +kernel
theorem dX10_isTerm_80 : decode cX10_isTerm 80 = .ok (.putfield 83, 3) := by decide +kernel
theorem dX10_isTerm_83 : decode cX10_isTerm 83 = .ok (.aload_n 0, 1) := by decide +kernel
theorem dX10_isTerm_84 : decode cX10_isTerm 84 = .ok (.bipush 8, 2) := by decide +kernel
theorem dX10_isTerm_86 : decode cX10_isTerm 86 = .ok (.iload_n 2, 1) := by decide +kernel
theorem dX10_isTerm_87 : decode cX10_isTerm 87 = .ok (.iconst 1, 1) := by decide +kernel
theorem dX10_isTerm_88 : decode cX10_isTerm 88 = .ok (.iadd, 1) := by decide +kernel
theorem dX10_isTerm_89 : decode cX10_isTerm 89 = .ok (.invokevirtual 112, 3) := by decide +kernel
theorem dX10_isTerm_92 : decode cX10_isTerm 92 = .ok (.ifCond .ne 5, 3) := by decide +kernel
theorem dX10_isTerm_95 : decode cX10_isTerm 95 = .ok (.iconst 0, 1) := by decide +kernel
theorem dX10_isTerm_96 : decode cX10_isTerm 96 = .ok (.ireturn, 1) := by decide +kernel
theorem dX10_isTerm_97 : decode cX10_isTerm 97 = .ok (.aload_n 0, 1) := by decide +kernel
theorem dX10_isTerm_98 : decode cX10_isTerm 98 = .ok (.invokevirtual 115, 3) := by decide +kernel
theorem dX10_isTerm_101 : decode cX10_isTerm 101 = .ok (.bipush 44, 2) := by decide +kernel
theorem dX10_isTerm_103 : decode cX10_isTerm 103 = .ok (.if_icmp .eq 23, 3) := by decide +kernel
theorem dX10_isTerm_106 : decode cX10_isTerm 106 = .ok (.aload_n 0, 1) := by decide +kernel
theorem dX10_isTerm_107 : decode cX10_isTerm 107 = .ok (.getfield 21, 3) := by decide +kernel
theorem dX10_isTerm_110 : decode cX10_isTerm 110 = .ok (.iload_n 3, 1) := by decide +kernel
theorem dX10_isTerm_111 : decode cX10_isTerm 111 = .ok (.dup2, 1) := by decide +kernel
theorem dX10_isTerm_112 : decode cX10_isTerm 112 = .ok (.iaload, 1) := by decide +kernel
theorem dX10_isTerm_113 : decode cX10_isTerm 113 = .ok (.iload 5, 2) := by decide +kernel
theorem dX10_isTerm_115 : decode cX10_isTerm 115 = .ok (.iconst 4, 1) := by decide +kernel
theorem dX10_isTerm_116 : decode cX10_isTerm 116 = .ok (.ishl, 1) := by decide +kernel
theorem dX10_isTerm_117 : decode cX10_isTerm 117 = .ok (.ior, 1) := by decide +kernel
theorem dX10_isTerm_118 : decode cX10_isTerm 118 = .ok (.iastore, 1) := by decide +kernel
theorem dX10_isTerm_119 : decode cX10_isTerm 119 = .ok (.aload_n 0, 1) := by decide +kernel
theorem dX10_isTerm_120 : decode cX10_isTerm 120 = .ok (.bipush 41, 2) := by decide +kernel
theorem dX10_isTerm_122 : decode cX10_isTerm 122 = .ok (.invokevirtual 105, 3) := by decide +kernel
theorem dX10_isTerm_125 : decode cX10_isTerm 125 = .ok (.ireturn, 1) := by decide +kernel
theorem dX10_isTerm_126 : decode cX10_isTerm 126 = .ok (.iinc 5 1, 3) := by decide +kernel
theorem dX10_isTerm_129 : decode cX10_isTerm 129 = .ok (.goto (-64), 3) := by decide +kernel
theorem dX10_isTerm_132 : decode cX10_isTerm 132 = .ok (.iconst 0, 1) := by decide +kernel
theorem dX10_isTerm_133 : decode cX10_isTerm 133 = .ok (.ireturn, 1) := by decide +kernel
end
section
theorem dX10_isSentence_0 : decode cX10_isSentence 0 = .ok (.aload_n 0, 1) := by decide +kernel
theorem dX10_isSentence_1 : decode cX10_isSentence 1 = .ok (.iconst 1, 1) := by decide +kernel
theorem dX10_isSentence_2 : decode cX10_isSentence 2 = .ok (.putfield 83, 3) := by decide +kernel
theorem dX10_isSentence_5 : decode cX10_isSentence 5 = .ok (.aload_n 0, 1) := by decide +kernel
theorem dX10_isSentence_6 : decode cX10_isSentence 6 = .ok (.iconst 0, 1) := by decide +kernel
theorem dX10_isSentence_7 : decode cX10_isSentence 7 = .ok (.putfield 86, 3) := by decide +kernel
theorem dX10_isSentence_10 : decode cX10_isSentence 10 = .ok (.aload_n 0, 1) := by decide +kernel
theorem dX10_isSentence_11 : decode cX10_isSentence 11 = .ok (.iconst 0, 1) := by decide +kernel
theorem dX10_isSentence_12 : decode cX10_isSentence 12 = .ok (.putfield 89, 3) := by decide +kernel
theorem dX10_isSentence_15 : decode cX10_isSentence 15 = .ok (.aload_n 0, 1) := by decide +kernel
theorem dX10_isSentence_16 : decode cX10_isSentence 16 = .ok (.iconst 0, 1) := by decide +kernel
theorem dX10_isSentence_17 : decode cX10_isSentence 17 = .ok (.putfield 92, 3) := by decide +kernel
theorem dX10_isSentence_20 : decode cX10_isSentence 20 = .ok (.aload_n 0, 1) := by decide +kernel
theorem dX10_isSentence_21 : decode cX10_isSentence 21 = .ok (.aload_n 0, 1) := by decide +kernel
theorem dX10_isSentence_22 : decode cX10_isSentence 22 = .ok (.getfield 28, 3) := by decide +kernel
theorem dX10_isSentence_25 : decode cX10_isSentence 25 = .ok (.ifCond .le 23, 3) := by decide +kernel
theorem dX10_isSentence_28 : decode cX10_isSentence 28 = .ok (.aload_n 0, 1) := by decide +kernel
theorem dX10_isSentence_29 : decode cX10_isSentence 29 = .ok (.getfield 9, 3) := by decide +kernel
theorem dX10_isSentence_32 : decode cX10_isSentence 32 = .ok (.iconst 0, 1) := by decide +kernel
theorem dX10_isSentence_33 : decode cX10_isSentence 33 = .ok (.iaload, 1) := by decide +kernel
theorem dX10_isSentence_34 : decode cX10_isSentence 34 = .ok (.bipush 110, 2) := by decide +kernel
theorem dX10_isSentence_36 : decode cX10_isSentence 36 = .ok (.if_icmp .ne 12, 3) := by decide +kernel
theorem dX10_isSentence_39 : decode cX10_isSentence 39 = .ok (.aload_n 0, 1) := by decide +kernel
theorem dX10_isSentence_40 : decode cX10_isSentence 40 = .ok (.getfield 15, 3) := by decide +kernel
theorem dX10_isSentence_43 : decode cX10_isSentence 43 = .ok (.iconst 0, 1) := by decide +kernel
theorem dX10_isSentence_44 : decode cX10_isSentence 44 = .ok (.iaload, 1) := by decide +kernel
theorem dX10_isSentence_45 : decode cX10_isSentence 45 = .ok (.goto 4, 3) := by decide +kernel
theorem dX10_isSentence_48 : decode cX10_isSentence 48 = .ok (.iconst (-1), 1) := by decide +kernel
theorem dX10_isSentence_49 : decode cX10_isSentence 49 = .ok (.putfield 95, 3) := by decide +kernel
theorem dX10_isSentence_52 : decode cX10_isSentence 52 = .ok (.aload_n 0, 1) := by decide +kernel
theorem dX10_isSentence_53 : decode cX10_isSentence 53 = .ok (.getfield 95, 3) := by decide +kernel
theorem dX10_isSentence_56 : decode cX10_isSentence 56 = .ok (.tableswitch 236 3 21 #[92, 92, 115, 115, 149, 149, 154, 154, 154, 149, 149, 149, 162, 154, 192, 203, 149, 154, 115], 92) := by decide +kernel
theorem dX10_isSentence_148 : decode cX10_isSentence 148 = .ok (.aload_n 0, 1) := by decide +kernel
theorem dX10_isSentence_149 : decode cX10_isSentence 149 = .ok (.invokevirtual 98, 3) := by decide +kernel
theorem dX10_isSentence_152 : decode cX10_isSentence 152 = .ok (.ifCond .eq 14, 3) := by decide +kernel
theorem dX10_isSentence_155 : decode cX10_isSentence 155 = .ok (.aload_n 0, 1) := by decide +kernel
theorem dX10_isSentence_156 : decode cX10_isSentence 156 = .ok (.invokevirtual 102, 3) := by decide +kernel
theorem dX10_isSentence_159 : decode cX10_isSentence 159 = .ok (.ifCond .eq 7, 3) := by decide +kernel
theorem dX10_isSentence_162 : decode cX10_isSentence 162 = .ok (.iconst 1, 1) := by decide +kernel
theorem dX10_isSentence_163 : decode cX10_isSentence 163 = .ok (.goto 4, 3) := by decide +kernel
theorem dX10_isSentence_166 : decode cX10_isSentence 166 = .ok (.iconst 0, 1) := by decide +kernel
theorem dX10_isSentence_167 : decode cX10_isSentence 167 = .ok (.istore_n 1, 1) := by decide +kernel
theorem dX10_isSentence_168 : decode cX10_isSentence 168 = .ok (.goto 126, 3) := by decide +kernel
theorem dX10_isSentence_171 : decode cX10_isSentence 171 = .ok (.aload_n 0, 1) := by decide +kernel
theorem dX10_isSentence_172 : decode cX10_isSentence 172 = .ok (.invokevirtual 98, 3) := by decide +kernel
theorem dX10_isSentence_175 : decode cX10_isSentence 175 = .ok (.ifCond .eq 25, 3) := by decide +kernel
theorem dX10_isSentence_178 : decode cX10_isSentence 178 = .ok (.aload_n 0, 1) := by decide +kernel
theorem dX10_isSentence_179 : decode cX10_isSentence 179 = .ok (.bipush 58, 2) := by decide +kernel
theorem dX10_isSentence_181 : decode cX10_isSentence 181 = .ok (.invokevirtual 105, 3) := by decide +kernel
theorem dX10_isSentence_184 : decode cX10_isSentence 184 = .ok (.ifCond .eq 16, 3) := by decide +kernel
theorem dX10_isSentence_187 : decode cX10_isSentence 187 = .ok (.aload_n 0, 1) := by decide +kernel
theorem dX10_isSentence_188 : decode cX10_isSentence 188 = .ok (.iconst 0, 1) := by decide +kernel
theorem dX10_isSentence_189 : decode cX10_isSentence 189 = .ok (.iconst 0, 1) := by decide +kernel
theorem dX10_isSentence_190 : decode cX10_isSentence 190 = .ok (.invokevirtual 108, 3) := by decide +kernel
theorem dX10_isSentence_193 : decode cX10_isSentence 193 = .ok (.ifCond .eq 7, 3) := by decide +kernel
theorem dX10_isSentence_196 : decode cX10_isSentence 196 = .ok (.iconst 1, 1) := by decide +kernel
theorem dX10_isSentence_197 : decode cX10_isSentence 197 = .ok (.goto 4, 3) := by decide +kernel
theorem dX10_isSentence_200 : decode cX10_isSentence 200 = .ok (.iconst 0, 1) := by decide +kernel
theorem dX10_isSentence_201 : decode cX10_isSentence 201 = .ok (.istore_n 1, 1) := by decide +kernel
theorem dX10_isSentence_202 : decode cX10_isSentence 202 = .ok (.goto 92, 3) := by decide +kernel
theorem dX10_isSentence_205 : decode cX10_isSentence 205 = .ok (.iconst 1, 1) := by decide +kernel
theorem dX10_isSentence_206 : decode cX10_isSentence 206 = .ok (.istore_n 1, 1) := by decide +kernel
theorem dX10_isSentence_207 : decode cX10_isSentence 207 = .ok (.goto 87, 3) := by decide +kernel
theorem dX10_isSentence_210 : decode cX10_isSentence 210 = .ok (.aload_n 0, 1) := by decide +kernel
theorem dX10_isSentence_211 : decode cX10_isSentence 211 = .ok (.invokevirtual 98, 3) := by decide +kernel
theorem dX10_isSentence_214 : decode cX10_isSentence 214 = .ok (.istore_n 1, 1) := by decide +kernel
theorem dX10_isSentence_215 : decode cX10_isSentence 215 = .ok (.goto 79, 3) := by decide +kernel
theorem dX10_isSentence_218 : decode cX10_isSentence 218 = .ok (.aload_n 0, 1) := by decide +kernel
theorem dX10_isSentence_219 : decode cX10_isSentence 219 = .ok (.invokevirtual 98, 3) := by decide +kernel
theorem dX10_isSentence_222 : decode cX10_isSentence 222 = .ok (.ifCond .eq 21, 3) := by decide +kernel
theorem dX10_isSentence_225 : decode cX10_isSentence 225 = .ok (.aload_n 0, 1) := by decide +kernel
theorem dX10_isSentence_226 : decode cX10_isSentence 226 = .ok (.invokevirtual 98, 3) := by decide +kernel
theorem dX10_isSentence_229 : decode cX10_isSentence 229 = .ok (.ifCond .eq 14, 3) := by decide +kernel
theorem dX10_isSentence_232 : decode cX10_isSentence 232 = .ok (.aload_n 0, 1) := by decide +kernel
theorem dX10_isSentence_233 : decode cX10_isSentence 233 = .ok (.invokevirtual 98, 3) := by decide +kernel
theorem dX10_isSentence_236 : decode cX10_isSentence 236 = .ok (.ifCond .eq 7, 3) := by decide +kernel
theorem dX10_isSentence_239 : decode cX10_isSentence 239 = .ok (.iconst 1, 1) := by decide +kernel
theorem dX10_isSentence_240 : decode cX10_isSentence 240 = .ok (.goto 4, 3) := by decide +kernel
theorem dX10_isSentence_243 : decode cX10_isSentence 243 = .ok (.iconst 0, 1) := by decide +kernel
theorem dX10_isSentence_244 : decode cX10_isSentence 244 = .ok (.istore_n 1, 1) := by decide +kernel
theorem dX10_isSentence_245 : decode cX10_isSentence 245 = .ok (.goto 49, 3) := by decide +kernel
theorem dX10_isSentence_248 : decode cX10_isSentence 248 = .ok (.aload_n 0, 1) := by decide +kernel
theorem dX10_isSentence_249 : decode cX10_isSentence 249 = .ok (.bipush 8, 2) := by decide +kernel
theorem dX10_isSentence_251 : decode cX10_isSentence 251 = .ok (.iconst 0, 1) := by decide +kernel
theorem dX10_isSentence_252 : decode cX10_isSentence 252 = .ok (.invokevirtual 112, 3) := by decide +kernel
theorem dX10_isSentence_255 : decode cX10_isSentence 255 = .ok (.istore_n 1, 1) := by decide +kernel
theorem dX10_isSentence_256 : decode cX10_isSentence 256 = .ok (.goto 38, 3) := by decide +kernel
theorem dX10_isSentence_259 : decode cX10_isSentence 259 = .ok (.aload_n 0, 1) := by decide +kernel
theorem dX10_isSentence_260 : decode cX10_isSentence 260 = .ok (.invokevirtual 98, 3) := by decide +kernel
theorem dX10_isSentence_263 : decode cX10_isSentence 263 = .ok (.ifCond .eq 24, 3) := by decide +kernel
theorem dX10_isSentence_266 : decode cX10_isSentence 266 = .ok (.aload_n 0, 1) := by decide +kernel
theorem dX10_isSentence_267 : decode cX10_isSentence 267 = .ok (.bipush 8, 2) := by decide +kernel
theorem dX10_isSentence_269 : decode cX10_isSentence 269 = .ok (.iconst 0, 1) := by decide +kernel
theorem dX10_isSentence_270 : decode cX10_isSentence 270 = .ok (.invokevirtual 112, 3) := by decide +kernel
theorem dX10_isSentence_273 : decode cX10_isSentence 273 = .ok (.ifCond .eq 14, 3) := by decide +kernel
theorem dX10_isSentence_276 : decode cX10_isSentence 276 = .ok (.aload_n 0, 1) := by decide +kernel
theorem dX10_isSentence_277 : decode cX10_isSentence 277 = .ok (.invokevirtual 98, 3) := by decide +kernel
theorem dX10_isSentence_280 : decode cX10_isSentence 280 = .ok (.ifCond .eq 7, 3) := by decide +kernel
theorem dX10_isSentence_283 : decode cX10_isSentence 283 = .ok (.iconst 1, 1) := by decide +kernel
theorem dX10_isSentence_284 : decode cX10_isSentence 284 = .ok (.goto 4, 3) := by decide +kernel
theorem dX10_isSentence_287 : decode cX10_isSentence 287 = .ok (.iconst 0, 1) := by decide +kernel
theorem dX10_isSentence_288 : decode cX10_isSentence 288 = .ok (.istore_n 1, 1) := by decide +kernel
theorem dX10_isSentence_289 : decode cX10_isSentence 289 = .ok (.goto 5, 3) := by decide +kernel
theorem dX10_isSentence_292 : decode cX10_isSentence 292 = .ok (.iconst 0, 1) := by decide +kernel
theorem dX10_isSentence_293 : decode cX10_isSentence 293 = .ok (.istore_n 1, 1) := by decide +kernel
theorem dX10_isSentence_294 : decode cX10_isSentence 294 = .ok (.iload_n 1, 1) := by decide +kernel
theorem dX10_isSentence_295 : decode cX10_isSentence 295 = .ok (.ifCond .eq 29, 3) := by decide +kernel
theorem dX10_isSentence_298 : decode cX10_isSentence 298 = .ok (.aload_n 0, 1) := by decide +kernel
theorem dX10_isSentence_299 : decode cX10_isSentence 299 = .ok (.getfield 83, 3) := by decide +kernel
theorem dX10_isSentence_302 : decode cX10_isSentence 302 = .ok (.aload_n 0, 1) := by decide +kernel
theorem dX10_isSentence_303 : decode cX10_isSentence 303 = .ok (.getfield 28, 3) := by decide +kernel
theorem dX10_isSentence_306 : decode cX10_isSentence 306 = .ok (.iconst 1, 1) := by decide +kernel
theorem dX10_isSentence_307 : decode cX10_isSentence 307 = .ok (.isub, 1) := by decide +kernel
theorem dX10_isSentence_308 : decode cX10_isSentence 308 = .ok (.if_icmp .ne 16, 3) := by decide +kernel
theorem dX10_isSentence_311 : decode cX10_isSentence 311 = .ok (.aload_n 0, 1) := by decide +kernel
theorem dX10_isSentence_312 : decode cX10_isSentence 312 = .ok (.invokevirtual 115, 3) := by decide +kernel
theorem dX10_isSentence_315 : decode cX10_isSentence 315 = .ok (.bipush 46, 2) := by decide +kernel
theorem dX10_isSentence_317 : decode cX10_isSentence 317 = .ok (.if_icmp .ne 7, 3) := by decide +kernel
theorem dX10_isSentence_320 : decode cX10_isSentence 320 = .ok (.iconst 1, 1) := by decide +kernel
theorem dX10_isSentence_321 : decode cX10_isSentence 321 = .ok (.goto 4, 3) := by decide +kernel
theorem dX10_isSentence_324 : decode cX10_isSentence 324 = .ok (.iconst 0, 1) := by decide +kernel
theorem dX10_isSentence_325 : decode cX10_isSentence 325 = .ok (.ireturn, 1) := by decide +kernel
end
section
theorem dX5_leadingBound_0 : decode cX5_leadingBound 0 = .ok (.iconst 0, 1) := by decide +kernel
theorem dX5_leadingBound_1 : decode cX5_leadingBound 1 = .ok (.istore_n 1, 1) := by decide +kernel
theorem dX5_leadingBound_2 : decode cX5_leadingBound 2 = .ok (.iload_n 1, 1) := by decide +kernel
theorem dX5_leadingBound_3 : decode cX5_leadingBound 3 = .ok (.aload_n 0, 1) := by decide +kernel
theorem dX5_leadingBound_4 : decode cX5_leadingBound 4 = .ok (.arraylength, 1) := by decide +kernel
theorem dX5_leadingBound_5 : decode cX5_leadingBound 5 = .ok (.if_icmp .ge 25, 3) := by decide +kernel
theorem dX5_leadingBound_8 : decode cX5_leadingBound 8 = .ok (.iload_n 1, 1) := by decide +kernel
theorem dX5_leadingBound_9 : decode cX5_leadingBound 9 = .ok (.bipush 12, 2) := by decide +kernel
theorem dX5_leadingBound_11 : decode cX5_leadingBound 11 = .ok (.if_icmp .ge 19, 3) := by decide +kernel
theorem dX5_leadingBound_14 : decode cX5_leadingBound 14 = .ok (.aload_n 0, 1) := by decide +kernel
theorem dX5_leadingBound_15 : decode cX5_leadingBound 15 = .ok (.iload_n 1, 1) := by decide +kernel
theorem dX5_leadingBound_16 : decode cX5_leadingBound 16 = .ok (.iaload, 1) := by decide +kernel
theorem dX5_leadingBound_17 : decode cX5_leadingBound 17 = .ok (.bipush 15, 2) := by decide +kernel
theorem dX5_leadingBound_19 : decode cX5_leadingBound 19 = .ok (.iand, 1) := by decide +kernel
theorem dX5_leadingBound_20 : decode cX5_leadingBound 20 = .ok (.iconst 5, 1) := by decide +kernel
theorem dX5_leadingBound_21 : decode cX5_leadingBound 21 = .ok (.if_icmp .ne 9, 3) := by decide +kernel
theorem dX5_leadingBound_24 : decode cX5_leadingBound 24 = .ok (.iinc 1 1, 3) := by decide +kernel
theorem dX5_leadingBound_27 : decode cX5_leadingBound 27 = .ok (.goto (-25), 3) := by decide +kernel
theorem dX5_leadingBound_30 : decode cX5_leadingBound 30 = .ok (.iload_n 1, 1) := by decide +kernel
theorem dX5_leadingBound_31 : decode cX5_leadingBound 31 = .ok (.ireturn, 1) := by decide +kernel
theorem dX5_areSame_0 : decode cX5_areSame 0 = .ok (.aload_n 0, 1) := by decide +kernel
theorem dX5_areSame_1 : decode cX5_areSame 1 = .ok (.arraylength, 1) := by decide +kernel
theorem dX5_areSame_2 : decode cX5_areSame 2 = .ok (.aload_n 1, 1) := by decide +kernel
theorem dX5_areSame_3 : decode cX5_areSame 3 = .ok (.arraylength, 1) := by decide +kernel
theorem dX5_areSame_4 : decode cX5_areSame 4 = .ok (.if_icmp .eq 5, 3) := by decide +kernel
theorem dX5_areSame_7 : decode cX5_areSame 7 = .ok (.iconst 0, 1) := by decide +kernel
theorem dX5_areSame_8 : decode cX5_areSame 8 = .ok (.ireturn, 1) := by decide +kernel
theorem dX5_areSame_9 : decode cX5_areSame 9 = .ok (.iconst 0, 1) := by decide +kernel
theorem dX5_areSame_10 : decode cX5_areSame 10 = .ok (.istore_n 2, 1) := by decide +kernel
theorem dX5_areSame_11 : decode cX5_areSame 11 = .ok (.iload_n 2, 1) := by decide +kernel
theorem dX5_areSame_12 : decode cX5_areSame 12 = .ok (.aload_n 0, 1) := by decide +kernel
theorem dX5_areSame_13 : decode cX5_areSame 13 = .ok (.arraylength, 1) := by decide +kernel
theorem dX5_areSame_14 : decode cX5_areSame 14 = .ok (.if_icmp .ge 23, 3) := by decide +kernel
theorem dX5_areSame_17 : decode cX5_areSame 17 = .ok (.aload_n 0, 1) := by decide +kernel
theorem dX5_areSame_18 : decode cX5_areSame 18 = .ok (.iload_n 2, 1) := by decide +kernel
theorem dX5_areSame_19 : decode cX5_areSame 19 = .ok (.iaload, 1) := by decide +kernel
theorem dX5_areSame_20 : decode cX5_areSame 20 = .ok (.aload_n 1, 1) := by decide +kernel
theorem dX5_areSame_21 : decode cX5_areSame 21 = .ok (.iload_n 2, 1) := by decide +kernel
theorem dX5_areSame_22 : decode cX5_areSame 22 = .ok (.iaload, 1) := by decide +kernel
theorem dX5_areSame_23 : decode cX5_areSame 23 = .ok (.invokestatic 291, 3) := by decide +kernel
theorem dX5_areSame_26 : decode cX5_areSame 26 = .ok (.ifCond .ne 5, 3) := by decide +kernel
theorem dX5_areSame_29 : decode cX5_areSame 29 = .ok (.iconst 0, 1) := by decide +kernel
theorem dX5_areSame_30 : decode cX5_areSame 30 = .ok (.ireturn, 1) := by decide +kernel
theorem dX5_areSame_31 : decode cX5_areSame 31 = .ok (.iinc 2 1, 3) := by decide +kernel
theorem dX5_areSame_34 : decode cX5_areSame 34 = .ok (.goto (-23), 3) := by decide +kernel
theorem dX5_areSame_37 : decode cX5_areSame 37 = .ok (.iconst 1, 1) := by decide +kernel
theorem dX5_areSame_38 : decode cX5_areSame 38 = .ok (.ireturn, 1) := by decide +kernel
theorem dX5_standsAt_0 : decode cX5_standsAt 0 = .ok (.iload_n 1, 1) := by decide +kernel
theorem dX5_standsAt_1 : decode cX5_standsAt 1 = .ok (.ifCond .lt 25, 3) := by decide +kernel
theorem dX5_standsAt_4 : decode cX5_standsAt 4 = .ok (.iload_n 3, 1) := by decide +kernel
theorem dX5_standsAt_5 : decode cX5_standsAt 5 = .ok (.ifCond .lt 21, 3) := by decide +kernel
theorem dX5_standsAt_8 : decode cX5_standsAt 8 = .ok (.iload_n 1, 1) := by decide +kernel
theorem dX5_standsAt_9 : decode cX5_standsAt 9 = .ok (.iload 4, 2) := by decide +kernel
theorem dX5_standsAt_11 : decode cX5_standsAt 11 = .ok (.iadd, 1) := by decide +kernel
theorem dX5_standsAt_12 : decode cX5_standsAt 12 = .ok (.aload_n 0, 1) := by decide +kernel
theorem dX5_standsAt_13 : decode cX5_standsAt 13 = .ok (.arraylength, 1) := by decide +kernel
theorem dX5_standsAt_14 : decode cX5_standsAt 14 = .ok (.if_icmp .gt 12, 3) := by decide +kernel
theorem dX5_standsAt_17 : decode cX5_standsAt 17 = .ok (.iload_n 3, 1) := by decide +kernel
theorem dX5_standsAt_18 : decode cX5_standsAt 18 = .ok (.iload 4, 2) := by decide +kernel
theorem dX5_standsAt_20 : decode cX5_standsAt 20 = .ok (.iadd, 1) := by decide +kernel
theorem dX5_standsAt_21 : decode cX5_standsAt 21 = .ok (.aload_n 2, 1) := by decide +kernel
theorem dX5_standsAt_22 : decode cX5_standsAt 22 = .ok (.arraylength, 1) := by decide +kernel
theorem dX5_standsAt_23 : decode cX5_standsAt 23 = .ok (.if_icmp .le 5, 3) := by decide +kernel
theorem dX5_standsAt_26 : decode cX5_standsAt 26 = .ok (.iconst 0, 1) := by decide +kernel
theorem dX5_standsAt_27 : decode cX5_standsAt 27 = .ok (.ireturn, 1) := by decide +kernel
theorem dX5_standsAt_28 : decode cX5_standsAt 28 = .ok (.iconst 0, 1) := by decide +kernel
theorem dX5_standsAt_29 : decode cX5_standsAt 29 = .ok (.istore 5, 2) := by decide +kernel
theorem dX5_standsAt_31 : decode cX5_standsAt 31 = .ok (.iload 5, 2) := by decide +kernel
theorem dX5_standsAt_33 : decode cX5_standsAt 33 = .ok (.iload 4, 2) := by decide +kernel
theorem dX5_standsAt_35 : decode cX5_standsAt 35 = .ok (.if_icmp .ge 26, 3) := by decide +kernel
theorem dX5_standsAt_38 : decode cX5_standsAt 38 = .ok (.aload_n 0, 1) := by decide +kernel
theorem dX5_standsAt_39 : decode cX5_standsAt 39 = .ok (.iload_n 1, 1) := by decide +kernel
theorem dX5_standsAt_40 : decode cX5_standsAt 40 = .ok (.iload 5, 2) := by decide +kernel
theorem dX5_standsAt_42 : decode cX5_standsAt 42 = .ok (.iadd, 1) := by decide +kernel
theorem dX5_standsAt_43 : decode cX5_standsAt 43 = .ok (.iaload, 1) := by decide +kernel
theorem dX5_standsAt_44 : decode cX5_standsAt 44 = .ok (.aload_n 2, 1) := by decide +kernel
theorem dX5_standsAt_45 : decode cX5_standsAt 45 = .ok (.iload_n 3, 1) := by decide +kernel
theorem dX5_standsAt_46 : decode cX5_standsAt 46 = .ok (.iload 5, 2) := by decide +kernel
theorem dX5_standsAt_48 : decode cX5_standsAt 48 = .ok (.iadd, 1) := by decide +kernel
theorem dX5_standsAt_49 : decode cX5_standsAt 49 = .ok (.iaload, 1) := by decide +kernel
theorem dX5_standsAt_50 : decode cX5_standsAt 50 = .ok (.if_icmp .eq 5, 3) := by decide +kernel
theorem dX5_standsAt_53 : decode cX5_standsAt 53 = .ok (.iconst 0, 1) := by decide +kernel
theorem dX5_standsAt_54 : decode cX5_standsAt 54 = .ok (.ireturn, 1) := by decide +kernel
theorem dX5_standsAt_55 : decode cX5_standsAt 55 = .ok (.iinc 5 1, 3) := by decide +kernel
theorem dX5_standsAt_58 : decode cX5_standsAt 58 = .ok (.goto (-27), 3) := by decide +kernel
theorem dX5_standsAt_61 : decode cX5_standsAt 61 = .ok (.iconst 1, 1) := by decide +kernel
theorem dX5_standsAt_62 : decode cX5_standsAt 62 = .ok (.ireturn, 1) := by decide +kernel
end
section
-- bits: what masks, shifts and or leave
theorem jb_or28 {x y z : Int32} (e : z = x ||| y) (hx : 0 ≤ x.toInt) (hy : 0 ≤ y.toInt) (hx1 : x.toInt < 268435456) (hy1 : y.toInt < 268435456) : 0 ≤ z.toInt ∧ z.toInt < 268435456 := by
  obtain ⟨n, hn, ex, ex2⟩ := jN_of hx
  obtain ⟨m, hm, ey, ey2⟩ := jN_of hy
  have h1 : n ||| m < 2 ^ 28 := Nat.or_lt_two_pow (by omega) (by omega)
  rw [e, ex, ey, jN_or hn hm, nI_toInt (by omega)]
  omega
end
section
-- formulas whose nodes may be -1
def EX5_areSameB : List (Nat × Nat) := []
def EX5_leadingBoundB : List (Nat × Nat) := []
def EX5_standsAtB : List (Nat × Nat) := []
set_option maxHeartbeats 4000000 in
set_option maxRecDepth 20000 in
theorem uX5_areSameB (l : Launch) (dC : Nat → ClassId) (dI : Nat → Nat → Nat) (ca : Nat → ClassId) (base : Nat) (B : jF) (hB : jBok B) (hAp : jAp (dC, dI)) (hB280 : ∀ n G a H, B 280 n G a H ↔ jAr (dC, dI) (ca 1) (fun j z => -1 ≤ z.toInt) n a H) (G0 : jT) (H0 : Heap) (r0 : Nat) (r1 : Nat) (n0 : Nat) (n1 : Nat) : Met l yX5_areSame (jw yX5_areSame cX5_areSame 3 (some .boolean)) ({ frames := 1, cells := 0, slots := 0, locals := 22 }) (va_Pc [.ref r0, .ref r1] (fun U => U.heap = H0 ∧ jX B base G0 [] H0 ∧ jG dC dI ca base U ∧ G0 r0 = some (280, n0) ∧ G0 r1 = some (280, n1) ∧ jP (dC, dI) G0 H0 [] ∧ n0 < 2147483648 ∧ n1 < 2147483648)) (va_Qi (S := Unit) (fun r u => (r = 0 ∨ r = 1) ∧ (True)) (fun u t => jRt (dC, dI) B base G0 EX5_areSameB H0 [] t.heap) (jA base)) 0 0 (jA base) := by
  refine Met.ofW (cc := cX5_areSame) (maxL := 3) (ret := (some .boolean)) (by decide) rfl ?_
  intro p e s m args below meth c s₁ Bd hml hv
  obtain ⟨rfl, hH0, hX, hG, hg_r0, hg_r1, hP0, hp0, hp1⟩ := hv
  have hK := hG.1
  have hx := Bd.exec
  have hb := Bd.bytes
  have hr := Bd.returns
  have hts := atoms_spec (ws := (jw yX5_areSame cX5_areSame 3 (some .boolean))) Bd.pre
  have htw : ∀ w ∈ jWl, w.before _ s = true := fun w h => hts w (List.mem_cons_of_mem _ h)
  have hown : s.vm.findClass RX5 = some m.cls := findClass_of_methodNamed Bd.named
  have hlocks := Bd.notSynchronized
  obtain ⟨Q, hQ⟩ : ∃ Q, Q = MQ below (va_Qi (S := Unit) (fun r u => (r = 0 ∨ r = 1) ∧ (True)) (fun u t => jRt (dC, dI) B base G0 EX5_areSameB H0 [] t.heap) (jA base)) ([.ref r0, .ref r1] : List Value).toArray s 0 0 (jA base) := ⟨_, rfl⟩
  rw [← hQ]
  have hl := lv_entry ([.ref r0, .ref r1]) (n := 3) (Nat.le_of_ble_eq_true rfl)
  rw [lg_entry_eq]
  generalize (lg_sl ([.ref r0, .ref r1]) ++ List.replicate (3 - (lg_sl ([.ref r0, .ref r1])).length) Slot.unset).toArray = ls at hl ⊢
  have hl : lv_has ls 3 [(0, .ref r0), (1, .ref r1)] := hl
  generalize hR : (headSpec (jw yX5_areSame cX5_areSame 3 (some .boolean)) ({ frames := 1, cells := 0, slots := 0, locals := 22 })).room = R
  subst hH0
  have hh : jSt (dC, dI) B base G0 G0 EX5_areSameB s.heap 0 0 [] [] [] s.heap [] := jSt.start hX hP0 jMc.nil jIs.nil
  clear hX hP0
  have hk0 : (0 : Int32).toInt = 0 := by decide
  have hk1 : (1 : Int32).toInt = 1 := by decide
  refine lv_aload_n hx hb dX5_areSame_0 rfl (lv_at hl 0 rfl) ?_
  refine j7_len hx hb hK hh hB280 1 rfl (by decide) hg_r0 (by omega) dX5_areSame_1 (fun z_1 hz_1 => ?_)
  refine lv_aload_n hx hb dX5_areSame_2 rfl (lv_at hl 1 rfl) ?_
  refine j7_len hx hb hK hh hB280 1 rfl (by decide) hg_r1 (by omega) dX5_areSame_3 (fun z_2 hz_2 => ?_)
  refine lv_icmp_eq (tgt := 9) hx hb dX5_areSame_4 (by decide) (fun c_3 => ?_) (fun c_3 => ?_)
  · skip
    have c_3' : z_1.toInt = z_2.toInt := jb_eq (rfl) (rfl) c_3
    refine lv_iconst (v := 0) hx hb dX5_areSame_9 (by decide) ?_
    refine lv_istore_n (lv' := [(2, .int 0), (0, .ref r0), (1, .ref r1)]) hx hb dX5_areSame_10 rfl hl (by decide) rfl (fun ls hl => ?_)
    have L11 : ∀ (N : Nat) (v2_4 : Int32) (H_4 : Heap) (locs_4 : List Loc), jSt (dC, dI) B base G0 G0 EX5_areSameB s.heap 0 0 [] [] [] H_4 locs_4 → (0 ≤ v2_4.toInt ∧ v2_4.toInt ≤ n0) → (n0 - v2_4.toInt : Int) < N → ∀ ls : Array Slot, lv_has ls 3 [(0, .ref r0), (1, .ref r1), (2, .int v2_4)] → W p l e R s m ([.ref r0, .ref r1] : List Value).toArray below meth c H_4 locs_4 0 0 Q (F0 m 11 ls []) := by
      intro N
      induction N with
      | zero => intro v2_4 H_4 locs_4 hh_4  hi_4 hm; exact absurd hm (by omega)
      | succ N L11 =>
        intro v2_4 H_4 locs_4 hh_4  hi_4 hm_4 ls hl
        obtain ⟨hi_4_0, hi_4_1⟩ := hi_4
        refine lv_iload_n hx hb dX5_areSame_11 rfl (lv_at hl 2 rfl) ?_
        refine lv_aload_n hx hb dX5_areSame_12 rfl (lv_at hl 0 rfl) ?_
        refine j7_len hx hb hK hh_4 hB280 1 rfl (by decide) hg_r0 (by omega) dX5_areSame_13 (fun z_5 hz_5 => ?_)
        refine lv_icmp_ge (tgt := 37) hx hb dX5_areSame_14 (by decide) (fun c_6 => ?_) (fun c_6 => ?_)
        · skip
          have c_6' : v2_4.toInt ≥ z_5.toInt := jb_ge (rfl) (rfl) c_6
          refine lv_iconst (v := 1) hx hb dX5_areSame_37 (by decide) ?_
          rw [hQ]
          exact W.zret (v := 1) hx hb hr (jb_nz (Or.inr rfl)) (fun t ht hW => ⟨⟨1, (), rfl, ⟨(Or.inr rfl), trivial⟩, hh_4.rt (M1 := []) [] rfl ht⟩, by rw [ht]; try exact hh_4.1.1, fun q h9 hq => by rw [ht]; try exact hh_4.1.2.1 q h9 hq⟩) hh_4.1.2.2 dX5_areSame_38
        · skip
          have c_6' : v2_4.toInt < z_5.toInt := jb_ge_n (rfl) (rfl) c_6
          refine lv_aload_n hx hb dX5_areSame_17 rfl (lv_at hl 0 rfl) ?_
          refine lv_iload_n hx hb dX5_areSame_18 rfl (lv_at hl 2 rfl) ?_
          refine j7_iald hx hb hK hh_4 hB280 1 rfl (by decide) hg_r0 (x := v2_4.toInt) (rfl) (by omega) dX5_areSame_19 (fun z_7 (hz_7 : -1 ≤ z_7.toInt) => ?_)
          refine lv_aload_n hx hb dX5_areSame_20 rfl (lv_at hl 1 rfl) ?_
          refine lv_iload_n hx hb dX5_areSame_21 rfl (lv_at hl 2 rfl) ?_
          refine j7_iald hx hb hK hh_4 hB280 1 rfl (by decide) hg_r1 (x := v2_4.toInt) (rfl) (by omega) dX5_areSame_22 (fun z_8 (hz_8 : -1 ≤ z_8.toInt) => ?_)
          refine vp_callSi (W.runS (As := [.int z_7, .int z_8]) (rest := []) ⟨hx, hb, hml, hown, hts⟩ (wX5_areAlike l dC dI ca base H_4 z_7 z_8) (va_cwS 2 hts (jgS (jWr_86 _ (List.mem_of_getElem? (i := 9) rfl)) (jWr_86 _ (List.mem_of_getElem? (i := 10) rfl)) (jWr_2 _ (List.mem_of_getElem? (i := 4) rfl)) (jWr_86 _ (List.mem_of_getElem? (i := 11) rfl))) rfl rfl rfl (by decide +kernel) ⟨by rw [← hR]; exact Nat.le_of_ble_eq_true rfl, by rw [← hR]; exact Nat.le_of_ble_eq_true rfl⟩) ⟨fun a U g mk q => by obtain ⟨q0, q1, qK, q9⟩ := q; exact ⟨q0, q1, jG.calling g mk a qK, q9⟩, fun U hU hW => ⟨rfl, hU, hG.step hW hU hh_4.1, by first | trivial | omega | (constructor <;> omega)⟩⟩ rfl rfl hl.1 rfl (lv_room (Nat.le_of_ble_eq_true rfl)) dX5_areSame_23 ⟨Nat.zero_le _, Nat.zero_le _⟩) (fun r_9 hr_9 => ?_)
          have hr_9' : r_9.toInt = 0 ∨ r_9.toInt = 1 := jb_01 hr_9
          refine lv_if_ne (tgt := 31) hx hb dX5_areSame_26 (by decide) (fun c_10 => ?_) (fun c_10 => ?_)
          · skip
            have c_10' : r_9.toInt ≠ 0 := jb_ne (rfl) ((by decide)) c_10
            obtain ⟨z_11, ez_11⟩ : ∃ y : Int32, y = v2_4 + 1 := ⟨_, rfl⟩
            refine lv_iinc (v := z_11) (lv' := [(2, .int z_11), (0, .ref r0), (1, .ref r1)]) hx hb dX5_areSame_31 hl (k := 2) rfl (by rw [ez_11]; rfl) (by decide) rfl (fun ls hl => ?_)
            have hz_11 : z_11.toInt = v2_4.toInt + 1 := by rw [ez_11]; exact jb_iadd2 (rfl) (by decide) (by omega)
            refine lv_goto (tgt := 11) hx hb dX5_areSame_34 (by decide) ?_
            exact L11 z_11 _ _ hh_4 (by first | omega | (refine ⟨?_, ?_⟩ <;> (first | omega | rfl | assumption | decide | exact Or.inl rfl | exact Or.inr rfl | (simp only; omega)))) (by omega) _ (lv_sub hl [1, 2, 0] rfl)
          · skip
            have c_10' : r_9.toInt = 0 := jb_ne_n (rfl) ((by decide)) c_10
            refine lv_iconst (v := 0) hx hb dX5_areSame_29 (by decide) ?_
            rw [hQ]
            exact W.zret (v := 0) hx hb hr (jb_nz (Or.inl rfl)) (fun t ht hW => ⟨⟨0, (), rfl, ⟨(Or.inl rfl), trivial⟩, hh_4.rt (M1 := []) [] rfl ht⟩, by rw [ht]; try exact hh_4.1.1, fun q h9 hq => by rw [ht]; try exact hh_4.1.2.1 q h9 hq⟩) hh_4.1.2.2 dX5_areSame_30
    exact L11 (n0 - (0 : Int32).toInt : Int).toNat.succ 0 _ _ hh (by first | omega | (refine ⟨?_, ?_⟩ <;> (first | omega | rfl | assumption | decide | exact Or.inl rfl | exact Or.inr rfl | (simp only; omega)))) (by omega) _ (lv_sub hl [1, 2, 0] rfl)
  · skip
    have c_3' : z_1.toInt ≠ z_2.toInt := jb_eq_n (rfl) (rfl) c_3
    refine lv_iconst (v := 0) hx hb dX5_areSame_7 (by decide) ?_
    rw [hQ]
    exact W.zret (v := 0) hx hb hr (jb_nz (Or.inl rfl)) (fun t ht hW => ⟨⟨0, (), rfl, ⟨(Or.inl rfl), trivial⟩, hh.rt (M1 := []) [] rfl ht⟩, by rw [ht]; try exact hh.1.1, fun q h9 hq => by rw [ht]; try exact hh.1.2.1 q h9 hq⟩) hh.1.2.2 dX5_areSame_8
set_option maxHeartbeats 4000000 in
set_option maxRecDepth 20000 in
theorem uX5_leadingBoundB (l : Launch) (dC : Nat → ClassId) (dI : Nat → Nat → Nat) (ca : Nat → ClassId) (base : Nat) (B : jF) (hB : jBok B) (hAp : jAp (dC, dI)) (hB280 : ∀ n G a H, B 280 n G a H ↔ jAr (dC, dI) (ca 1) (fun j z => -1 ≤ z.toInt) n a H) (G0 : jT) (H0 : Heap) (r0 : Nat) (n0 : Nat) (ff : Nat → Int32) : Met l yX5_leadingBound (jw yX5_leadingBound cX5_leadingBound 2 (some .int)) ({ frames := 0, cells := 0, slots := 0, locals := 0 }) (va_Pc [.ref r0] (fun U => U.heap = H0 ∧ jX B base G0 [] H0 ∧ jG dC dI ca base U ∧ G0 r0 = some (280, n0) ∧ jP (dC, dI) G0 H0 [] ∧ jMc (dC, dI) G0 H0 [(r0, 280, n0, ca 1, ff)] ∧ n0 < 2147483648)) (va_Qi (S := Unit) (fun r u => (0 ≤ r.toInt ∧ r.toInt ≤ n0 ∧ r.toInt ≤ 12 ∧ jLd ff n0 r.toInt)) (fun u t => jRt (dC, dI) B base G0 EX5_leadingBoundB H0 [] t.heap) (jA base)) 0 0 (jA base) := by
  refine Met.ofW (cc := cX5_leadingBound) (maxL := 2) (ret := (some .int)) (by decide) rfl ?_
  intro p e s m args below meth c s₁ Bd hml hv
  obtain ⟨rfl, hH0, hX, hG, hg_r0, hP0, hM0, hp0⟩ := hv
  have hK := hG.1
  have hx := Bd.exec
  have hb := Bd.bytes
  have hr := Bd.returns
  have hts := atoms_spec (ws := (jw yX5_leadingBound cX5_leadingBound 2 (some .int))) Bd.pre
  have htw : ∀ w ∈ jWl, w.before _ s = true := fun w h => hts w (List.mem_cons_of_mem _ h)
  have hown : s.vm.findClass RX5 = some m.cls := findClass_of_methodNamed Bd.named
  have hlocks := Bd.notSynchronized
  obtain ⟨Q, hQ⟩ : ∃ Q, Q = MQ below (va_Qi (S := Unit) (fun r u => (0 ≤ r.toInt ∧ r.toInt ≤ n0 ∧ r.toInt ≤ 12 ∧ jLd ff n0 r.toInt)) (fun u t => jRt (dC, dI) B base G0 EX5_leadingBoundB H0 [] t.heap) (jA base)) ([.ref r0] : List Value).toArray s 0 0 (jA base) := ⟨_, rfl⟩
  rw [← hQ]
  have hl := lv_entry ([.ref r0]) (n := 2) (Nat.le_of_ble_eq_true rfl)
  rw [lg_entry_eq]
  generalize (lg_sl ([.ref r0]) ++ List.replicate (2 - (lg_sl ([.ref r0])).length) Slot.unset).toArray = ls at hl ⊢
  have hl : lv_has ls 2 [(0, .ref r0)] := hl
  generalize hR : (headSpec (jw yX5_leadingBound cX5_leadingBound 2 (some .int)) ({ frames := 0, cells := 0, slots := 0, locals := 0 })).room = R
  subst hH0
  have hh : jSt (dC, dI) B base G0 G0 EX5_leadingBoundB s.heap 0 0 [] [(r0, 280, n0, ca 1, ff)] [] s.heap [] := jSt.start hX hP0 hM0 jIs.nil
  clear hX hP0
  have hk0 : (0 : Int32).toInt = 0 := by decide
  have hk1 : (1 : Int32).toInt = 1 := by decide
  have hk5 : (5 : Int32).toInt = 5 := by decide
  have hk12 : (12 : Int32).toInt = 12 := by decide
  have hk15 : (15 : Int32).toInt = 15 := by decide
  refine lv_iconst (v := 0) hx hb dX5_leadingBound_0 (by decide) ?_
  refine lv_istore_n (lv' := [(1, .int 0), (0, .ref r0)]) hx hb dX5_leadingBound_1 rfl hl (by decide) rfl (fun ls hl => ?_)
  have L2 : ∀ (N : Nat) (v1_1 : Int32) (H_1 : Heap) (locs_1 : List Loc), jSt (dC, dI) B base G0 G0 EX5_leadingBoundB s.heap 0 0 [] [(r0, 280, n0, ca 1, ff)] [] H_1 locs_1 → (0 ≤ v1_1.toInt ∧ v1_1.toInt ≤ n0 ∧ v1_1.toInt ≤ 12 ∧ jLe5 ff v1_1.toInt) → (12 - v1_1.toInt : Int) < N → ∀ ls : Array Slot, lv_has ls 2 [(0, .ref r0), (1, .int v1_1)] → W p l e R s m ([.ref r0] : List Value).toArray below meth c H_1 locs_1 0 0 Q (F0 m 2 ls []) := by
    intro N
    induction N with
    | zero => intro v1_1 H_1 locs_1 hh_1  hi_1 hm; exact absurd hm (by omega)
    | succ N L2 =>
      intro v1_1 H_1 locs_1 hh_1  hi_1 hm_1 ls hl
      obtain ⟨hi_1_0, hi_1_1, hi_1_2, hi_1_3⟩ := hi_1
      refine lv_iload_n hx hb dX5_leadingBound_2 rfl (lv_at hl 1 rfl) ?_
      refine lv_aload_n hx hb dX5_leadingBound_3 rfl (lv_at hl 0 rfl) ?_
      refine j7_len hx hb hK hh_1 hB280 1 rfl (by decide) hg_r0 (by omega) dX5_leadingBound_4 (fun z_2 hz_2 => ?_)
      refine lv_icmp_ge (tgt := 30) hx hb dX5_leadingBound_5 (by decide) (fun c_3 => ?_) (fun c_3 => ?_)
      · skip
        have c_3' : v1_1.toInt ≥ z_2.toInt := jb_ge (rfl) (rfl) c_3
        refine lv_iload_n hx hb dX5_leadingBound_30 rfl (lv_at hl 1 rfl) ?_
        rw [hQ]
        exact W.iret (v := v1_1) hx hb hr (fun t ht hW => ⟨⟨v1_1, (), rfl, by refine ⟨by omega, by omega, by omega, ?_⟩; exact And.intro hi_1_3 (by omega), hh_1.rt (M1 := []) [] rfl ht⟩, by rw [ht]; try exact hh_1.1.1, fun q h9 hq => by rw [ht]; try exact hh_1.1.2.1 q h9 hq⟩) hh_1.1.2.2 dX5_leadingBound_31
      · skip
        have c_3' : v1_1.toInt < z_2.toInt := jb_ge_n (rfl) (rfl) c_3
        refine lv_iload_n hx hb dX5_leadingBound_8 rfl (lv_at hl 1 rfl) ?_
        refine lv_bipush (v := 12) hx hb dX5_leadingBound_9 (by decide) ?_
        refine lv_icmp_ge (tgt := 30) hx hb dX5_leadingBound_11 (by decide) (fun c_4 => ?_) (fun c_4 => ?_)
        · skip
          have c_4' : v1_1.toInt ≥ 12 := jb_ge (rfl) ((by decide)) c_4
          refine lv_iload_n hx hb dX5_leadingBound_30 rfl (lv_at hl 1 rfl) ?_
          rw [hQ]
          exact W.iret (v := v1_1) hx hb hr (fun t ht hW => ⟨⟨v1_1, (), rfl, by refine ⟨by omega, by omega, by omega, ?_⟩; exact And.intro hi_1_3 (by omega), hh_1.rt (M1 := []) [] rfl ht⟩, by rw [ht]; try exact hh_1.1.1, fun q h9 hq => by rw [ht]; try exact hh_1.1.2.1 q h9 hq⟩) hh_1.1.2.2 dX5_leadingBound_31
        · skip
          have c_4' : v1_1.toInt < 12 := jb_ge_n (rfl) ((by decide)) c_4
          refine lv_aload_n hx hb dX5_leadingBound_14 rfl (lv_at hl 0 rfl) ?_
          refine lv_iload_n hx hb dX5_leadingBound_15 rfl (lv_at hl 1 rfl) ?_
          refine j7_ialdM hx hb hK hh_1 hB280 1 rfl (by decide) hg_r0 (x := v1_1.toInt) (rfl) (by omega) (j := 0) rfl dX5_leadingBound_16 (fun z_5 ez_5 (hz_5 : -1 ≤ z_5.toInt) => ?_)
          have hqz_5 : z_5.toInt = jSo ff (v1_1.toInt) := by unfold jSo; rw [ez_5]
          refine lv_bipush (v := 15) hx hb dX5_leadingBound_17 (by decide) ?_
          refine lv_iand hx hb dX5_leadingBound_19 ?_
          refine lv_topi (fun z_6 ez_6 => ?_)
          have hz_6 : 0 ≤ z_6.toInt ∧ z_6.toInt ≤ 15 := by rw [ez_6]; exact jb_and z_5 (m := 15) (k := 4) (by decide) (by decide)
          have hbz_6 : z_6.toInt = z_5.toInt % 16 := by rw [ez_6, jb_and15]
          refine lv_iconst (v := 5) hx hb dX5_leadingBound_20 (by decide) ?_
          refine lv_icmp_ne (tgt := 30) hx hb dX5_leadingBound_21 (by decide) (fun c_7 => ?_) (fun c_7 => ?_)
          · skip
            have c_7' : z_6.toInt ≠ 5 := jb_ne (rfl) ((by decide)) c_7
            refine lv_iload_n hx hb dX5_leadingBound_30 rfl (lv_at hl 1 rfl) ?_
            rw [hQ]
            exact W.iret (v := v1_1) hx hb hr (fun t ht hW => ⟨⟨v1_1, (), rfl, by refine ⟨by omega, by omega, by omega, ?_⟩; exact And.intro hi_1_3 (by omega), hh_1.rt (M1 := []) [] rfl ht⟩, by rw [ht]; try exact hh_1.1.1, fun q h9 hq => by rw [ht]; try exact hh_1.1.2.1 q h9 hq⟩) hh_1.1.2.2 dX5_leadingBound_31
          · skip
            have c_7' : z_6.toInt = 5 := jb_ne_n (rfl) ((by decide)) c_7
            obtain ⟨z_8, ez_8⟩ : ∃ y : Int32, y = v1_1 + 1 := ⟨_, rfl⟩
            refine lv_iinc (v := z_8) (lv' := [(1, .int z_8), (0, .ref r0)]) hx hb dX5_leadingBound_24 hl (k := 1) rfl (by rw [ez_8]; rfl) (by decide) rfl (fun ls hl => ?_)
            have hz_8 : z_8.toInt = v1_1.toInt + 1 := by rw [ez_8]; exact jb_iadd2 (rfl) (by decide) (by omega)
            refine lv_goto (tgt := 2) hx hb dX5_leadingBound_27 (by decide) ?_
            exact L2 z_8 _ _ hh_1 (by refine ⟨by omega, by omega, by omega, hi_1_3.step (by omega) (by omega)⟩) (by omega) _ (lv_sub hl [1, 0] rfl)
  exact L2 (12 - (0 : Int32).toInt : Int).toNat.succ 0 _ _ hh (by refine ⟨by omega, by omega, by omega, fun j h0 h1 => by omega⟩) (by omega) _ (lv_sub hl [1, 0] rfl)
set_option maxHeartbeats 4000000 in
set_option maxRecDepth 20000 in
theorem uX5_standsAtB (l : Launch) (dC : Nat → ClassId) (dI : Nat → Nat → Nat) (ca : Nat → ClassId) (base : Nat) (B : jF) (hB : jBok B) (hAp : jAp (dC, dI)) (hB280 : ∀ n G a H, B 280 n G a H ↔ jAr (dC, dI) (ca 1) (fun j z => -1 ≤ z.toInt) n a H) (G0 : jT) (H0 : Heap) (r0 : Nat) (a1 : Int32) (r2 : Nat) (a3 : Int32) (a4 : Int32) (n0 : Nat) (n2 : Nat) : Met l yX5_standsAt (jw yX5_standsAt cX5_standsAt 6 (some .boolean)) ({ frames := 0, cells := 0, slots := 0, locals := 0 }) (va_Pc [.ref r0, .int a1, .ref r2, .int a3, .int a4] (fun U => U.heap = H0 ∧ jX B base G0 [] H0 ∧ jG dC dI ca base U ∧ G0 r0 = some (280, n0) ∧ G0 r2 = some (280, n2) ∧ jP (dC, dI) G0 H0 [] ∧ n0 ≤ 100000 ∧ n2 ≤ 100000 ∧ a1.toInt ≤ 100000 ∧ a3.toInt ≤ 100000 ∧ a4.toInt ≤ 1000000)) (va_Qi (S := Unit) (fun r u => (r = 0 ∨ r = 1) ∧ (True)) (fun u t => jRt (dC, dI) B base G0 EX5_standsAtB H0 [] t.heap) (jA base)) 0 0 (jA base) := by
  refine Met.ofW (cc := cX5_standsAt) (maxL := 6) (ret := (some .boolean)) (by decide) rfl ?_
  intro p e s m args below meth c s₁ Bd hml hv
  obtain ⟨rfl, hH0, hX, hG, hg_r0, hg_r2, hP0, hp0, hp1, hp2, hp3, hp4⟩ := hv
  have hK := hG.1
  have hx := Bd.exec
  have hb := Bd.bytes
  have hr := Bd.returns
  have hts := atoms_spec (ws := (jw yX5_standsAt cX5_standsAt 6 (some .boolean))) Bd.pre
  have htw : ∀ w ∈ jWl, w.before _ s = true := fun w h => hts w (List.mem_cons_of_mem _ h)
  have hown : s.vm.findClass RX5 = some m.cls := findClass_of_methodNamed Bd.named
  have hlocks := Bd.notSynchronized
  obtain ⟨Q, hQ⟩ : ∃ Q, Q = MQ below (va_Qi (S := Unit) (fun r u => (r = 0 ∨ r = 1) ∧ (True)) (fun u t => jRt (dC, dI) B base G0 EX5_standsAtB H0 [] t.heap) (jA base)) ([.ref r0, .int a1, .ref r2, .int a3, .int a4] : List Value).toArray s 0 0 (jA base) := ⟨_, rfl⟩
  rw [← hQ]
  have hl := lv_entry ([.ref r0, .int a1, .ref r2, .int a3, .int a4]) (n := 6) (Nat.le_of_ble_eq_true rfl)
  rw [lg_entry_eq]
  generalize (lg_sl ([.ref r0, .int a1, .ref r2, .int a3, .int a4]) ++ List.replicate (6 - (lg_sl ([.ref r0, .int a1, .ref r2, .int a3, .int a4])).length) Slot.unset).toArray = ls at hl ⊢
  have hl : lv_has ls 6 [(0, .ref r0), (1, .int a1), (2, .ref r2), (3, .int a3), (4, .int a4)] := hl
  generalize hR : (headSpec (jw yX5_standsAt cX5_standsAt 6 (some .boolean)) ({ frames := 0, cells := 0, slots := 0, locals := 0 })).room = R
  subst hH0
  have hh : jSt (dC, dI) B base G0 G0 EX5_standsAtB s.heap 0 0 [] [] [] s.heap [] := jSt.start hX hP0 jMc.nil jIs.nil
  clear hX hP0
  have hk0 : (0 : Int32).toInt = 0 := by decide
  have hk1 : (1 : Int32).toInt = 1 := by decide
  have hrg_a1 := jb_rng a1
  have hrg_a3 := jb_rng a3
  have hrg_a4 := jb_rng a4
  refine lv_iload_n hx hb dX5_standsAt_0 rfl (lv_at hl 1 rfl) ?_
  refine lv_if_lt (tgt := 26) hx hb dX5_standsAt_1 (by decide) (fun c_1 => ?_) (fun c_1 => ?_)
  · skip
    have c_1' : a1.toInt < 0 := jb_lt (rfl) ((by decide)) c_1
    refine lv_iconst (v := 0) hx hb dX5_standsAt_26 (by decide) ?_
    rw [hQ]
    exact W.zret (v := 0) hx hb hr (jb_nz (Or.inl rfl)) (fun t ht hW => ⟨⟨0, (), rfl, ⟨(Or.inl rfl), trivial⟩, hh.rt (M1 := []) [] rfl ht⟩, by rw [ht]; try exact hh.1.1, fun q h9 hq => by rw [ht]; try exact hh.1.2.1 q h9 hq⟩) hh.1.2.2 dX5_standsAt_27
  · skip
    have c_1' : a1.toInt ≥ 0 := jb_lt_n (rfl) ((by decide)) c_1
    refine lv_iload_n hx hb dX5_standsAt_4 rfl (lv_at hl 3 rfl) ?_
    refine lv_if_lt (tgt := 26) hx hb dX5_standsAt_5 (by decide) (fun c_2 => ?_) (fun c_2 => ?_)
    · skip
      have c_2' : a3.toInt < 0 := jb_lt (rfl) ((by decide)) c_2
      refine lv_iconst (v := 0) hx hb dX5_standsAt_26 (by decide) ?_
      rw [hQ]
      exact W.zret (v := 0) hx hb hr (jb_nz (Or.inl rfl)) (fun t ht hW => ⟨⟨0, (), rfl, ⟨(Or.inl rfl), trivial⟩, hh.rt (M1 := []) [] rfl ht⟩, by rw [ht]; try exact hh.1.1, fun q h9 hq => by rw [ht]; try exact hh.1.2.1 q h9 hq⟩) hh.1.2.2 dX5_standsAt_27
    · skip
      have c_2' : a3.toInt ≥ 0 := jb_lt_n (rfl) ((by decide)) c_2
      refine lv_iload_n hx hb dX5_standsAt_8 rfl (lv_at hl 1 rfl) ?_
      refine lv_iload hx hb dX5_standsAt_9 (lv_at hl 4 rfl) ?_
      refine lv_iadd hx hb dX5_standsAt_11 ?_
      refine lv_topi (fun z_3 ez_3 => ?_)
      have hz_3 : z_3.toInt = a1.toInt + a4.toInt := by rw [ez_3]; exact jb_iadd2 (rfl) (rfl) (by omega)
      refine lv_aload_n hx hb dX5_standsAt_12 rfl (lv_at hl 0 rfl) ?_
      refine j7_len hx hb hK hh hB280 1 rfl (by decide) hg_r0 (by omega) dX5_standsAt_13 (fun z_4 hz_4 => ?_)
      refine lv_icmp_gt (tgt := 26) hx hb dX5_standsAt_14 (by decide) (fun c_5 => ?_) (fun c_5 => ?_)
      · skip
        have c_5' : z_3.toInt > z_4.toInt := jb_gt (rfl) (rfl) c_5
        refine lv_iconst (v := 0) hx hb dX5_standsAt_26 (by decide) ?_
        rw [hQ]
        exact W.zret (v := 0) hx hb hr (jb_nz (Or.inl rfl)) (fun t ht hW => ⟨⟨0, (), rfl, ⟨(Or.inl rfl), trivial⟩, hh.rt (M1 := []) [] rfl ht⟩, by rw [ht]; try exact hh.1.1, fun q h9 hq => by rw [ht]; try exact hh.1.2.1 q h9 hq⟩) hh.1.2.2 dX5_standsAt_27
      · skip
        have c_5' : z_3.toInt ≤ z_4.toInt := jb_gt_n (rfl) (rfl) c_5
        refine lv_iload_n hx hb dX5_standsAt_17 rfl (lv_at hl 3 rfl) ?_
        refine lv_iload hx hb dX5_standsAt_18 (lv_at hl 4 rfl) ?_
        refine lv_iadd hx hb dX5_standsAt_20 ?_
        refine lv_topi (fun z_6 ez_6 => ?_)
        have hz_6 : z_6.toInt = a3.toInt + a4.toInt := by rw [ez_6]; exact jb_iadd2 (rfl) (rfl) (by omega)
        refine lv_aload_n hx hb dX5_standsAt_21 rfl (lv_at hl 2 rfl) ?_
        refine j7_len hx hb hK hh hB280 1 rfl (by decide) hg_r2 (by omega) dX5_standsAt_22 (fun z_7 hz_7 => ?_)
        refine lv_icmp_le (tgt := 28) hx hb dX5_standsAt_23 (by decide) (fun c_8 => ?_) (fun c_8 => ?_)
        · skip
          have c_8' : z_6.toInt ≤ z_7.toInt := jb_le (rfl) (rfl) c_8
          refine lv_iconst (v := 0) hx hb dX5_standsAt_28 (by decide) ?_
          refine lv_istore (lv' := [(5, .int 0), (0, .ref r0), (1, .int a1), (2, .ref r2), (3, .int a3), (4, .int a4)]) hx hb dX5_standsAt_29 hl (by decide) rfl (fun ls hl => ?_)
          have L31 : ∀ (N : Nat) (v5_9 : Int32) (H_9 : Heap) (locs_9 : List Loc), jSt (dC, dI) B base G0 G0 EX5_standsAtB s.heap 0 0 [] [] [] H_9 locs_9 → (0 ≤ v5_9.toInt) → (((a4.toInt - v5_9.toInt).toNat : Int) : Int) < N → ∀ ls : Array Slot, lv_has ls 6 [(0, .ref r0), (1, .int a1), (2, .ref r2), (3, .int a3), (4, .int a4), (5, .int v5_9)] → W p l e R s m ([.ref r0, .int a1, .ref r2, .int a3, .int a4] : List Value).toArray below meth c H_9 locs_9 0 0 Q (F0 m 31 ls []) := by
            intro N
            induction N with
            | zero => intro v5_9 H_9 locs_9 hh_9  hi_9 hm; exact absurd hm (by omega)
            | succ N L31 =>
              intro v5_9 H_9 locs_9 hh_9  hi_9 hm_9 ls hl
              refine lv_iload hx hb dX5_standsAt_31 (lv_at hl 5 rfl) ?_
              refine lv_iload hx hb dX5_standsAt_33 (lv_at hl 4 rfl) ?_
              refine lv_icmp_ge (tgt := 61) hx hb dX5_standsAt_35 (by decide) (fun c_10 => ?_) (fun c_10 => ?_)
              · skip
                have c_10' : v5_9.toInt ≥ a4.toInt := jb_ge (rfl) (rfl) c_10
                refine lv_iconst (v := 1) hx hb dX5_standsAt_61 (by decide) ?_
                rw [hQ]
                exact W.zret (v := 1) hx hb hr (jb_nz (Or.inr rfl)) (fun t ht hW => ⟨⟨1, (), rfl, ⟨(Or.inr rfl), trivial⟩, hh_9.rt (M1 := []) [] rfl ht⟩, by rw [ht]; try exact hh_9.1.1, fun q h9 hq => by rw [ht]; try exact hh_9.1.2.1 q h9 hq⟩) hh_9.1.2.2 dX5_standsAt_62
              · skip
                have c_10' : v5_9.toInt < a4.toInt := jb_ge_n (rfl) (rfl) c_10
                refine lv_aload_n hx hb dX5_standsAt_38 rfl (lv_at hl 0 rfl) ?_
                refine lv_iload_n hx hb dX5_standsAt_39 rfl (lv_at hl 1 rfl) ?_
                refine lv_iload hx hb dX5_standsAt_40 (lv_at hl 5 rfl) ?_
                refine lv_iadd hx hb dX5_standsAt_42 ?_
                refine lv_topi (fun z_11 ez_11 => ?_)
                have hz_11 : z_11.toInt = a1.toInt + v5_9.toInt := by rw [ez_11]; exact jb_iadd2 (rfl) (rfl) (by omega)
                refine j7_iald hx hb hK hh_9 hB280 1 rfl (by decide) hg_r0 (x := z_11.toInt) (rfl) (by omega) dX5_standsAt_43 (fun z_12 (hz_12 : -1 ≤ z_12.toInt) => ?_)
                refine lv_aload_n hx hb dX5_standsAt_44 rfl (lv_at hl 2 rfl) ?_
                refine lv_iload_n hx hb dX5_standsAt_45 rfl (lv_at hl 3 rfl) ?_
                refine lv_iload hx hb dX5_standsAt_46 (lv_at hl 5 rfl) ?_
                refine lv_iadd hx hb dX5_standsAt_48 ?_
                refine lv_topi (fun z_13 ez_13 => ?_)
                have hz_13 : z_13.toInt = a3.toInt + v5_9.toInt := by rw [ez_13]; exact jb_iadd2 (rfl) (rfl) (by omega)
                refine j7_iald hx hb hK hh_9 hB280 1 rfl (by decide) hg_r2 (x := z_13.toInt) (rfl) (by omega) dX5_standsAt_49 (fun z_14 (hz_14 : -1 ≤ z_14.toInt) => ?_)
                refine lv_icmp_eq (tgt := 55) hx hb dX5_standsAt_50 (by decide) (fun c_15 => ?_) (fun c_15 => ?_)
                · skip
                  have c_15' : z_12.toInt = z_14.toInt := jb_eq (rfl) (rfl) c_15
                  obtain ⟨z_16, ez_16⟩ : ∃ y : Int32, y = v5_9 + 1 := ⟨_, rfl⟩
                  refine lv_iinc (v := z_16) (lv' := [(5, .int z_16), (0, .ref r0), (1, .int a1), (2, .ref r2), (3, .int a3), (4, .int a4)]) hx hb dX5_standsAt_55 hl (k := 5) rfl (by rw [ez_16]; rfl) (by decide) rfl (fun ls hl => ?_)
                  have hz_16 : z_16.toInt = v5_9.toInt + 1 := by rw [ez_16]; exact jb_iadd2 (rfl) (by decide) (by omega)
                  refine lv_goto (tgt := 31) hx hb dX5_standsAt_58 (by decide) ?_
                  exact L31 z_16 _ _ hh_9 (by first | omega | rfl | assumption | decide | exact Or.inl rfl | exact Or.inr rfl | (simp only; omega)) (by omega) _ (lv_sub hl [1, 2, 3, 4, 5, 0] rfl)
                · skip
                  have c_15' : z_12.toInt ≠ z_14.toInt := jb_eq_n (rfl) (rfl) c_15
                  refine lv_iconst (v := 0) hx hb dX5_standsAt_53 (by decide) ?_
                  rw [hQ]
                  exact W.zret (v := 0) hx hb hr (jb_nz (Or.inl rfl)) (fun t ht hW => ⟨⟨0, (), rfl, ⟨(Or.inl rfl), trivial⟩, hh_9.rt (M1 := []) [] rfl ht⟩, by rw [ht]; try exact hh_9.1.1, fun q h9 hq => by rw [ht]; try exact hh_9.1.2.1 q h9 hq⟩) hh_9.1.2.2 dX5_standsAt_54
          exact L31 (((a4.toInt - (0 : Int32).toInt).toNat : Int) : Int).toNat.succ 0 _ _ hh (by first | omega | rfl | assumption | decide | exact Or.inl rfl | exact Or.inr rfl | (simp only; omega)) (by omega) _ (lv_sub hl [1, 2, 3, 4, 5, 0] rfl)
        · skip
          have c_8' : z_6.toInt > z_7.toInt := jb_le_n (rfl) (rfl) c_8
          refine lv_iconst (v := 0) hx hb dX5_standsAt_26 (by decide) ?_
          rw [hQ]
          exact W.zret (v := 0) hx hb hr (jb_nz (Or.inl rfl)) (fun t ht hW => ⟨⟨0, (), rfl, ⟨(Or.inl rfl), trivial⟩, hh.rt (M1 := []) [] rfl ht⟩, by rw [ht]; try exact hh.1.1, fun q h9 hq => by rw [ht]; try exact hh.1.2.1 q h9 hq⟩) hh.1.2.2 dX5_standsAt_27
end
section
-- arrays of references that get their kind when they are filled; arrays of arrays of ints
section J22
variable {p : Program} {l : Launch} {e : Env} {R : Room} {s : State} {m : MethodId} {args : Array Value} {below : List Frame} {meth : Method} {c : Code} {H : Heap} {locs : List Loc} {cells slots : Nat} {Q : State → Prop}
variable {cc : ByteArray} {pc : Nat} {ls : Array Slot} {rest : List Value} {dC : Nat → ClassId} {dI : Nat → Nat → Nat} {ca : Nat → ClassId} {B : jF} {base : Nat} {G0 G : jT} {E : List (Nat × Nat)} {H0 : Heap} {zc zs : Nat} {L : List jPin} {M : List jCt} {I : List jIv} {a k n index : Nat} {tys : List (ClassId × FieldType)} {own C : String} {cA : ClassId} {f : Nat → Option Nat}
theorem j7_newaR (hexec : p.tables.exec = Jvm.exec) (hb : c.code = cc) (hown : s.vm.findClass own = some m.cls) (hclink : (Cond.classLink own index (FieldType.array .int).toString).before args s = true) (hK5 : jK5 dC dI ca s) (hh : jSt (dC, dI) B base G0 G E s.heap zc zs L M I H locs) (hB : jBok B) {z : Int32} {x : Int} (hi : z.toInt = x) (h0 : 0 ≤ x ∧ x ≤ 200000) (hR : zc + 1 ≤ R.cells) (hR2 : zs + x.toNat ≤ R.slots) (hdg : decode cc pc = .ok (.anewarray index, 3))
    (kk : ∀ (H1 : Heap), (∀ q, q < H.size → H1[q]? = H[q]?) → (∀ t, G H.size ≠ some t) → va_at (dC, dI) vwCl (H.size, .inl (ca 8, x.toNat, .inr (.inr (.inr (.inr (fun _ => none)))))) H1 → jSt (dC, dI) B base G0 G E s.heap (zc + 1) (zs + x.toNat) L M I H1 locs → W p l e R s m args below meth c H1 locs (zc + 1) (zs + x.toNat) Q (F0 m (pc + 3) ls (.ref H.size :: rest))) : W p l e R s m args below meth c H locs cells slots Q (F0 m pc ls (.int z :: rest)) := by
  have hn0 : ¬ z < 0 := jb_n0 hi h0.1
  have hcl : z.toNatClampNeg = x.toNat := jb_cl hi h0.1
  refine W.tight (c2 := zc) (n2 := zs) hh.2.2.2.2.2.1 hh.2.2.2.2.2.2.1 ?_
  refine W.anewA (t := .int) hexec hb hown hclink hK5.2.2.2 rfl hdg rfl hn0 (by rw [hcl]; omega) hR (by rw [hcl]; exact hR2) fun cB kA comp f1 f2 f3 f4 => ?_
  have hc : cB = ca 8 := Option.some.inj (f1.symm.trans (hK5.1.2 0 _ rfl).2)
  subst hc
  generalize hH1 : H.push ({ cls := ca 8, slots := Array.replicate z.toNatClampNeg .null, vm := .none } : Cell) = H1
  have z1 : H1.size = H.size + 1 := by rw [← hH1, Array.size_push]
  have e1 : H1[H.size]? = some (arrV (ca 8) z.toNatClampNeg (fun _ => .null)) := by rw [← hH1, Array.getElem?_push_size, ← arrV_new]
  have o1 : ∀ q : Nat, q < H.size → H1[q]? = H[q]? := fun q hq => by rw [← hH1, Array.getElem?_push, if_neg (Nat.ne_of_lt hq)]
  rw [hcl] at e1 ⊢
  exact kk H1 o1 (fun t => by rw [hh.2.1.fresh]; exact fun h => by cases h) (by show H1[H.size]? = some (vp_cell _ _); rw [e1]; rfl) (hh.newR hB z1 o1 (by rw [jTot_push z1 e1 o1, arrV_size]))
/-- an array of ints into an array of arrays that has no kind yet -/
theorem j7_qastA {Pv : Nat → Int32 → Prop} (hexec : p.tables.exec = Jvm.exec) (hb : c.code = cc) (hK5 : jK5 dC dI ca s) (hh : jSt (dC, dI) B base G0 G E H0 zc zs L M I H locs) (hB : jBok B) (hraw : va_at (dC, dI) vwCl (a, .inl (ca 8, n, .inr (.inr (.inr (.inr f))))) H) (hnr : ∀ t, G a ≠ some t) (hba : base ≤ a) {i : Int32} {x : Int} (hi : i.toInt = x) (h12 : 0 ≤ x ∧ x < n)
    {v kv nv : Nat} (hBv : ∀ n G a H, B kv n G a H ↔ jAr (dC, dI) (ca 1) Pv n a H) (hkv : kv < 1000) (hv : G v = some (kv, nv)) (hdg : decode cc pc = .ok (.aastore, 1))
    (kk : ∀ (H1 : Heap) (locs1 : List Loc), va_at (dC, dI) vwCl (a, .inl (ca 8, n, .inr (.inr (.inr (.inr (va_up f x.toNat (some v))))))) H1 → (∀ q, q ≠ a → H1[q]? = H[q]?) → jSt (dC, dI) B base G0 G E H0 zc zs L M I H1 locs1 → W p l e R s m args below meth c H1 locs1 cells slots Q (F0 m (pc + 1) ls rest)) : W p l e R s m args below meth c H locs cells slots Q (F0 m pc ls (.ref v :: .int i :: .ref a :: rest)) := by
  obtain ⟨h1, h2⟩ := h12
  have g1 : H[a]? = some (vp_cell (ca 8) (n, .inr (.inr (.inr (.inr f))))) := hraw
  obtain ⟨gv, gv1, -⟩ := hh.ar hBv hkv hv
  have q1 : H[v]? = some (vp_cell (ca 1) (nv, .inl gv)) := gv1
  have hlt := jb_cl_lt hi h1 h2
  have hcl := jb_cl hi h1
  obtain ⟨-, ⟨kA, k1, k2⟩, ⟨kI, hkI⟩, -⟩ := hK5
  refine W.aast hexec hb g1 (fun q h => by cases h) (fun h => by cases h) k1 k2 rfl hkI ⟨jb_n0 hi h1, by show _ < (arrV _ _ _).slots.size; rw [arrV_size]; exact hlt⟩ q1 (fun q h => by cases h) hkI (va_asg _ _) rfl rfl hdg fun H1 e1 z oq => ?_
  refine kk H1 _ ?_ oq (hh.rawput hB hnr hba z oq (jTot_set z g1 e1 (jSet_sz _ _ _) oq) (fun q hq => ?_))
  · show H1[a]? = some (vp_cell _ _)
    rw [e1, vp_cell_q, vp_cell_q, arrV_store, hcl]
    congr 2
    funext q
    by_cases hq : q = x.toNat
    · subst hq
      simp [updV, va_up, va_rf]
    · simp [updV, va_up, hq]
  · rcases List.mem_append.mp hq with h | h
    · exact hh.1.2.2 q h
    · cases List.mem_singleton.mp h; exact hba
end J22
end
section
-- System.arraycopy of ints in a walk
section J21
variable {p : Program} {l : Launch} {e : Env} {R : Room} {s : State} {m : MethodId} {args : Array Value} {below : List Frame} {meth : Method} {c : Code} {H : Heap} {locs : List Loc} {cells slots : Nat} {Q : State → Prop}
variable {cc : ByteArray} {pc : Nat} {ls : Array Slot} {rest : List Value} {dC : Nat → ClassId} {dI : Nat → Nat → Nat} {ca : Nat → ClassId} {B : jF} {base : Nat} {G0 G : jT} {E : List (Nat × Nat)} {H0 : Heap} {zc zs : Nat} {L : List jPin} {M : List jCt} {I : List jIv} {a a0 k k0 n n0 index : Nat} {tys : List (ClassId × FieldType)} {own : String} {P P0 : Nat → Int32 → Prop} {cA : ClassId}
theorem j7_acopyi (hexec : p.tables.exec = Jvm.exec) (hb : c.code = cc) (hml : c.maxLocals = ls.size) (hown : s.vm.findClass own = some m.cls) (hlink : (Cond.methodLink own index arraycopyName).before args s = true) (hnat : (Cond.native arraycopyName).before args s = true) (hstat : (Cond.static arraycopyName).before args s = true) (hini : (Cond.initialized "java/lang/System").before args s = true)
    (hK : va_K (dC, dI) vwCl tys s) (hh : jSt (dC, dI) B base G0 G E H0 zc zs L M I H locs) (hB : jBok B) (hBk : ∀ n G a H, B k n G a H ↔ jAr (dC, dI) cA P n a H) (hBk0 : ∀ n G a H, B k0 n G a H ↔ jAr (dC, dI) cA P0 n a H) (t0 : Nat) (ht : tys[t0]? = some (cA, .int)) (hk : k < 1000) (hk0 : k0 < 1000) (hk2 : 17 ≤ k) (hE : E.contains (k, 0) = true) (hM : M.all (fun q => !(q.2.1 == k)) = true) (hI : I.all (fun q => !(q.1.contains (k, 0))) = true) (ha0 : G a0 = some (k0, n0)) (ha : G a = some (k, n))
    {sp dp w : Int32} {x y z : Int} (hx : sp.toInt = x) (hy : dp.toInt = y) (hz : w.toInt = z) (h1 : 0 ≤ x ∧ 0 ≤ y ∧ 0 ≤ z ∧ x + z ≤ n0 ∧ y + z ≤ n) (hP : ∀ (i : Nat) (v : Int32), P0 (x.toNat + i) v → P (y.toNat + i) v)
    (hframes : 1 ≤ R.frames) (hlocals : (rest.map fun v => v.category).sum + (nativeFrameWords "java/lang/System" "arraycopy" 5 + 11) ≤ R.locals) (hdg : decode cc pc = .ok (.invokestatic index, 3))
    (kk : ∀ (H1 : Heap) (locs1 : List Loc), (∀ q, q ≠ a → H1[q]? = H[q]?) → jSt (dC, dI) B base G0 G E H0 zc zs L M I H1 locs1 → W p l e R s m args below meth c H1 locs1 cells slots Q (F0 m (pc + 3) ls rest)) : W p l e R s m args below meth c H locs cells slots Q (F0 m pc ls (.int w :: .int dp :: .ref a :: .int sp :: .ref a0 :: rest)) := by
  obtain ⟨q1, q2, q3, q4, q5⟩ := h1
  obtain ⟨f, f1, f2⟩ := hh.ar hBk0 hk0 ha0
  obtain ⟨g, g1, g2⟩ := hh.ar hBk hk ha
  have s0 : ¬ sp < 0 := jb_n0 hx q1
  have d0 : ¬ dp < 0 := jb_n0 hy q2
  have w0 : ¬ w < 0 := jb_n0 hz q3
  have es : sp.toNatClampNeg = x.toNat := jb_cl hx q1
  have ed : dp.toNatClampNeg = y.toNat := jb_cl hy q2
  have ew : w.toNatClampNeg = z.toNat := jb_cl hz q3
  have h4 : sp.toNatClampNeg + w.toNatClampNeg ≤ n0 := by rw [es, ew]; omega
  have c0 : H[a0]? = some (vp_cell cA (n0, .inl f)) := f1
  have c1 : H[a]? = some (vp_cell cA (n, .inl g)) := g1
  intro T hT X
  obtain ⟨-, k9, hk9, cm9, hkk9⟩ := (hK.2 t0 _ ht).1 n0 (fun j => .int (f j))
  obtain ⟨-, k8, hk8, cm8, hkk8⟩ := (hK.2 t0 _ ht).1 n (fun j => .int (g j))
  obtain ⟨vm', X', step⟩ := X.arraycopy hexec hown hlink hnat hstat hini (src := a0) (dst := a) (cs := vp_cell cA (n0, .inl f)) (cd := vp_cell cA (n, .inl g)) (srcPos := sp) (destPos := dp) (n := w) (by rw [hT]; exact c0) (by rw [hT]; exact c1)
    (fun _ h => by cases h) (fun _ h => by cases h) (fun h => by cases h) (fun h => by cases h) hk9 hk8 hkk9 hkk8 (by simp [refKind]) s0 d0 w0
    (by rw [hx, hz]; show ¬ _ > ((arrV cA n0 (fun j => .int (f j))).slots.size : Int); rw [arrV_size]; omega)
    (by rw [hy, hz]; show ¬ _ > ((arrV cA n (fun j => .int (g j))).slots.size : Int); rw [arrV_size]; omega)
    (fun vm₁ _ i hi => by
      have e9 : (vp_cell cA (n0, .inl f)).slots.getD (sp.toNatClampNeg + i) .null = .int (f (sp.toNatClampNeg + i)) := by
        show (arrV cA n0 (fun j => .int (f j))).slots.getD _ _ = _
        rw [Array.getD_eq_getD_getElem?, arrV_read _ _ (by omega)]
        rfl
      rw [e9]
      exact ⟨rfl, trivial⟩)
    (g := F0 m pc ls (.int w :: .int dp :: .ref a :: .int sp :: .ref a0 :: rest)) rfl (by rw [hml]) (rest := rest) rfl (by rw [hb]; exact hdg) hframes (by show 2 * 0 + _ + _ ≤ _; omega)
  have e1 : copied (vp_cell cA (n0, .inl f)) (vp_cell cA (n, .inl g)) sp dp w = vp_cell cA (n, .inl (va_cpy f g sp.toNatClampNeg dp.toNatClampNeg w.toNatClampNeg)) := va_copied (fun z => .int z) cA cA f g h4
  rw [e1] at X' step
  have hl : a < H.size := (Array.getElem?_eq_some_iff.mp c1).1
  have hheap : ((T.setVm vm').setCell a (vp_cell cA (n, .inl (va_cpy f g sp.toNatClampNeg dp.toNatClampNeg w.toNatClampNeg)))).heap = H.setIfInBounds a (vp_cell cA (n, .inl (va_cpy f g sp.toNatClampNeg dp.toNatClampNeg w.toNatClampNeg))) := by rw [← hT]; rfl
  have oq : ∀ q : Nat, q ≠ a → (H.setIfInBounds a (vp_cell cA (n, .inl (va_cpy f g sp.toNatClampNeg dp.toNatClampNeg w.toNatClampNeg))))[q]? = H[q]? := fun q hq => by simp [Array.getElem?_setIfInBounds, Ne.symm hq]
  have ha1 : (H.setIfInBounds a (vp_cell cA (n, .inl (va_cpy f g sp.toNatClampNeg dp.toNatClampNeg w.toNatClampNeg))))[a]? = some (vp_cell cA (n, .inl (va_cpy f g sp.toNatClampNeg dp.toNatClampNeg w.toNatClampNeg))) := by simp [Array.getElem?_setIfInBounds, hl]
  have hsz : (H.setIfInBounds a (vp_cell cA (n, .inl (va_cpy f g sp.toNatClampNeg dp.toNatClampNeg w.toNatClampNeg)))).size = H.size := by simp
  obtain ⟨t, a1, b1⟩ := kk _ _ oq (hh.arr hB ha hk hk2 hE hM hI hsz oq (jTot_set hsz c1 ha1 (by rw [vp_cell_i, vp_cell_i, arrV_size, arrV_size]) oq) (fun q hq => by
      rcases List.mem_append.mp hq with h | h
      · exact hh.1.2.2 q h
      · obtain ⟨z9, -, hz9⟩ := List.mem_map.mp h
        rw [← hz9]
        exact (hh.ab ha).1) ((hBk _ _ _ _).mpr ⟨_, ha1, fun j hj => by
      show P j (va_cpy f g sp.toNatClampNeg dp.toNatClampNeg w.toNatClampNeg j)
      unfold va_cpy
      split
      · rename_i hc
        have h9 := f2 (sp.toNatClampNeg + (j - dp.toNatClampNeg)) (by omega)
        have e9 : dp.toNatClampNeg + (j - dp.toNatClampNeg) = j := by omega
        have h8 := hP (j - dp.toNatClampNeg) (f (sp.toNatClampNeg + (j - dp.toNatClampNeg)))
        rw [← es, ← ed, e9] at h8
        exact h8 h9
      · exact g2 j hj⟩)) _ hheap X'
  exact ⟨t, step t a1, b1⟩
theorem j7_iastF (hexec : p.tables.exec = Jvm.exec) (hb : c.code = cc) (hK : va_K (dC, dI) vwCl tys s) (hh : jSt (dC, dI) B base G0 G E H0 zc zs L M I H locs) (hB : jBok B) (hBk : ∀ n G a H, B k n G a H ↔ jAr (dC, dI) cA P n a H) (t0 : Nat) (ht : tys[t0]? = some (cA, .int)) (hk : k < 1000) (hk2 : 17 ≤ k) (hE : E.contains (k, 0) = true) (hM : M.all (fun q => !(q.2.1 == k)) = true) (hI : I.all (fun q => !(q.1.contains (k, 0))) = true) (ha : G a = some (k, n)) {i v : Int32} {x : Int} (hi : i.toInt = x) (h12 : 0 ≤ x ∧ x < n) (hv : P x.toNat v) (hdg : decode cc pc = .ok (.iastore, 1))
    (kk : ∀ (H1 : Heap) (locs1 : List Loc), (∀ q, q ≠ a → H1[q]? = H[q]?) → jSt (dC, dI) B base G0 G E H0 zc zs L M I H1 locs1 → W p l e R s m args below meth c H1 locs1 cells slots Q (F0 m (pc + 1) ls rest)) : W p l e R s m args below meth c H locs cells slots Q (F0 m pc ls (.int v :: .int i :: .ref a :: rest)) := by
  obtain ⟨h1, h2⟩ := h12
  obtain ⟨f, g1, g2⟩ := hh.ar hBk hk ha
  exact j_iast (A := jA base) hexec hb hK t0 g1 (hh.ab ha).1 hh.1.2.2 ht (jb_in hi h1 h2) hdg (fun H1 locs1 hat hsz hfr hT hL => kk H1 locs1 hfr (hh.arr hB ha hk hk2 hE hM hI hsz hfr hT hL ((hBk _ _ _ _).mpr ⟨_, hat, jAr_upd g2 hi h1 hv⟩)))
end J21
end
section
theorem dJ7_fill_53178_0 : decode cJ7_fill_53178 0 = .ok (.iconst 0, 1) := by decide +kernel
theorem dJ7_fill_53178_1 : decode cJ7_fill_53178 1 = .ok (.istore_n 2, 1) := by decide +kernel
theorem dJ7_fill_53178_2 : decode cJ7_fill_53178 2 = .ok (.aload_n 0, 1) := by decide +kernel
theorem dJ7_fill_53178_3 : decode cJ7_fill_53178 3 = .ok (.arraylength, 1) := by decide +kernel
theorem dJ7_fill_53178_4 : decode cJ7_fill_53178 4 = .ok (.istore_n 3, 1) := by decide +kernel
theorem dJ7_fill_53178_5 : decode cJ7_fill_53178 5 = .ok (.iload_n 2, 1) := by decide +kernel
theorem dJ7_fill_53178_6 : decode cJ7_fill_53178 6 = .ok (.iload_n 3, 1) := by decide +kernel
theorem dJ7_fill_53178_7 : decode cJ7_fill_53178 7 = .ok (.if_icmp .ge 13, 3) := by decide +kernel
theorem dJ7_fill_53178_10 : decode cJ7_fill_53178 10 = .ok (.aload_n 0, 1) := by decide +kernel
theorem dJ7_fill_53178_11 : decode cJ7_fill_53178 11 = .ok (.iload_n 2, 1) := by decide +kernel
theorem dJ7_fill_53178_12 : decode cJ7_fill_53178 12 = .ok (.iload_n 1, 1) := by decide +kernel
theorem dJ7_fill_53178_13 : decode cJ7_fill_53178 13 = .ok (.iastore, 1) := by decide +kernel
theorem dJ7_fill_53178_14 : decode cJ7_fill_53178 14 = .ok (.iinc 2 1, 3) := by decide +kernel
theorem dJ7_fill_53178_17 : decode cJ7_fill_53178 17 = .ok (.goto (-12), 3) := by decide +kernel
theorem dJ7_fill_53178_20 : decode cJ7_fill_53178 20 = .ok (.return_, 1) := by decide +kernel
end
section
theorem dX9_longer_0 : decode cX9_longer 0 = .ok (.aload_n 0, 1) := by decide +kernel
theorem dX9_longer_1 : decode cX9_longer 1 = .ok (.aload_n 0, 1) := by decide +kernel
theorem dX9_longer_2 : decode cX9_longer 2 = .ok (.arraylength, 1) := by decide +kernel
theorem dX9_longer_3 : decode cX9_longer 3 = .ok (.iconst 1, 1) := by decide +kernel
theorem dX9_longer_4 : decode cX9_longer 4 = .ok (.iadd, 1) := by decide +kernel
theorem dX9_longer_5 : decode cX9_longer 5 = .ok (.invokestatic 43, 3) := by decide +kernel
theorem dX9_longer_8 : decode cX9_longer 8 = .ok (.astore_n 2, 1) := by decide +kernel
theorem dX9_longer_9 : decode cX9_longer 9 = .ok (.aload_n 2, 1) := by decide +kernel
theorem dX9_longer_10 : decode cX9_longer 10 = .ok (.aload_n 0, 1) := by decide +kernel
theorem dX9_longer_11 : decode cX9_longer 11 = .ok (.arraylength, 1) := by decide +kernel
theorem dX9_longer_12 : decode cX9_longer 12 = .ok (.iload_n 1, 1) := by decide +kernel
theorem dX9_longer_13 : decode cX9_longer 13 = .ok (.iastore, 1) := by decide +kernel
theorem dX9_longer_14 : decode cX9_longer 14 = .ok (.aload_n 2, 1) := by decide +kernel
theorem dX9_longer_15 : decode cX9_longer 15 = .ok (.areturn, 1) := by decide +kernel
theorem dX9_longer__0 : decode cX9_longer_ 0 = .ok (.aload_n 0, 1) := by decide +kernel
theorem dX9_longer__1 : decode cX9_longer_ 1 = .ok (.arraylength, 1) := by decide +kernel
theorem dX9_longer__2 : decode cX9_longer_ 2 = .ok (.iconst 1, 1) := by decide +kernel
theorem dX9_longer__3 : decode cX9_longer_ 3 = .ok (.iadd, 1) := by decide +kernel
theorem dX9_longer__4 : decode cX9_longer_ 4 = .ok (.anewarray 18, 3) := by decide +kernel
theorem dX9_longer__7 : decode cX9_longer_ 7 = .ok (.astore_n 2, 1) := by decide +kernel
theorem dX9_longer__8 : decode cX9_longer_ 8 = .ok (.iconst 0, 1) := by decide +kernel
theorem dX9_longer__9 : decode cX9_longer_ 9 = .ok (.istore_n 3, 1) := by decide +kernel
theorem dX9_longer__10 : decode cX9_longer_ 10 = .ok (.iload_n 3, 1) := by decide +kernel
theorem dX9_longer__11 : decode cX9_longer_ 11 = .ok (.aload_n 0, 1) := by decide +kernel
theorem dX9_longer__12 : decode cX9_longer_ 12 = .ok (.arraylength, 1) := by decide +kernel
theorem dX9_longer__13 : decode cX9_longer_ 13 = .ok (.if_icmp .ge 15, 3) := by decide +kernel
theorem dX9_longer__16 : decode cX9_longer_ 16 = .ok (.aload_n 2, 1) := by decide +kernel
theorem dX9_longer__17 : decode cX9_longer_ 17 = .ok (.iload_n 3, 1) := by decide +kernel
theorem dX9_longer__18 : decode cX9_longer_ 18 = .ok (.aload_n 0, 1) := by decide +kernel
theorem dX9_longer__19 : decode cX9_longer_ 19 = .ok (.iload_n 3, 1) := by decide +kernel
theorem dX9_longer__20 : decode cX9_longer_ 20 = .ok (.aaload, 1) := by decide +kernel
theorem dX9_longer__21 : decode cX9_longer_ 21 = .ok (.aastore, 1) := by decide +kernel
theorem dX9_longer__22 : decode cX9_longer_ 22 = .ok (.iinc 3 1, 3) := by decide +kernel
theorem dX9_longer__25 : decode cX9_longer_ 25 = .ok (.goto (-15), 3) := by decide +kernel
theorem dX9_longer__28 : decode cX9_longer_ 28 = .ok (.aload_n 2, 1) := by decide +kernel
theorem dX9_longer__29 : decode cX9_longer_ 29 = .ok (.aload_n 0, 1) := by decide +kernel
theorem dX9_longer__30 : decode cX9_longer_ 30 = .ok (.arraylength, 1) := by decide +kernel
theorem dX9_longer__31 : decode cX9_longer_ 31 = .ok (.aload_n 1, 1) := by decide +kernel
theorem dX9_longer__32 : decode cX9_longer_ 32 = .ok (.aastore, 1) := by decide +kernel
theorem dX9_longer__33 : decode cX9_longer_ 33 = .ok (.aload_n 2, 1) := by decide +kernel
theorem dX9_longer__34 : decode cX9_longer_ 34 = .ok (.areturn, 1) := by decide +kernel
theorem dJ7_copyOf_59c91_0 : decode cJ7_copyOf_59c91 0 = .ok (.iload_n 1, 1) := by decide +kernel
theorem dJ7_copyOf_59c91_1 : decode cJ7_copyOf_59c91 1 = .ok (.aload_n 0, 1) := by decide +kernel
theorem dJ7_copyOf_59c91_2 : decode cJ7_copyOf_59c91 2 = .ok (.arraylength, 1) := by decide +kernel
theorem dJ7_copyOf_59c91_3 : decode cJ7_copyOf_59c91 3 = .ok (.if_icmp .ne 11, 3) := by decide +kernel
theorem dJ7_copyOf_59c91_14 : decode cJ7_copyOf_59c91 14 = .ok (.iload_n 1, 1) := by decide +kernel
theorem dJ7_copyOf_59c91_15 : decode cJ7_copyOf_59c91 15 = .ok (.newarray .int, 2) := by decide +kernel
theorem dJ7_copyOf_59c91_17 : decode cJ7_copyOf_59c91 17 = .ok (.astore_n 2, 1) := by decide +kernel
theorem dJ7_copyOf_59c91_18 : decode cJ7_copyOf_59c91 18 = .ok (.aload_n 0, 1) := by decide +kernel
theorem dJ7_copyOf_59c91_19 : decode cJ7_copyOf_59c91 19 = .ok (.iconst 0, 1) := by decide +kernel
theorem dJ7_copyOf_59c91_20 : decode cJ7_copyOf_59c91 20 = .ok (.aload_n 2, 1) := by decide +kernel
theorem dJ7_copyOf_59c91_21 : decode cJ7_copyOf_59c91 21 = .ok (.iconst 0, 1) := by decide +kernel
theorem dJ7_copyOf_59c91_22 : decode cJ7_copyOf_59c91 22 = .ok (.aload_n 0, 1) := by decide +kernel
theorem dJ7_copyOf_59c91_23 : decode cJ7_copyOf_59c91 23 = .ok (.arraylength, 1) := by decide +kernel
theorem dJ7_copyOf_59c91_24 : decode cJ7_copyOf_59c91 24 = .ok (.iload_n 1, 1) := by decide +kernel
theorem dJ7_copyOf_59c91_25 : decode cJ7_copyOf_59c91 25 = .ok (.invokestatic 304, 3) := by decide +kernel
theorem dJ7_copyOf_59c91_28 : decode cJ7_copyOf_59c91 28 = .ok (.invokestatic 150, 3) := by decide +kernel
theorem dJ7_copyOf_59c91_31 : decode cJ7_copyOf_59c91 31 = .ok (.aload_n 2, 1) := by decide +kernel
theorem dJ7_copyOf_59c91_32 : decode cJ7_copyOf_59c91 32 = .ok (.areturn, 1) := by decide +kernel
def EJ7_copyOf_59c91 : List (Nat × Nat) := [(101, 0)]
def EX9_longer : List (Nat × Nat) := [(101, 0)]
set_option maxHeartbeats 4000000 in
set_option maxRecDepth 20000 in
theorem uJ7_copyOf_59c91 (l : Launch) (dC : Nat → ClassId) (dI : Nat → Nat → Nat) (ca : Nat → ClassId) (base : Nat) (B : jF) (hB : jBok B) (hAp : jAp (dC, dI)) (hB101 : ∀ n G a H, B 101 n G a H ↔ jAr (dC, dI) (ca 1) (fun j z => True) n a H) (G0 : jT) (H0 : Heap) (r0 : Nat) (a1 : Int32) (n0 : Nat) (LC LS : Nat) : Met l yJ7_copyOf_59c91 (jw yJ7_copyOf_59c91 cJ7_copyOf_59c91 3 (some (.array .int))) ({ frames := 1, cells := LC - H0.size, slots := LS - jTot H0, locals := 61 }) (va_Pc [.ref r0, .int a1] (fun U => U.heap = H0 ∧ jX B base G0 [] H0 ∧ jG dC dI ca base U ∧ G0 r0 = some (101, n0) ∧ jP (dC, dI) G0 H0 [] ∧ H0.size + 1 ≤ LC ∧ jTot H0 + a1.toInt.toNat ≤ LS ∧ 0 ≤ a1.toInt ∧ a1.toInt ≤ 3000 ∧ n0 ≤ 3000 ∧ a1.toInt ≠ n0)) (jQx (S := Nat × jT) (fun v u => jRf u.2 101 u.1 v ∧ jNwv v H0 ∧ u.1 = a1.toInt) (fun u t => jRa (dC, dI) B base G0 u.2 EJ7_copyOf_59c91 H0 (1) (u.1) [] t.heap ∧ (jNk [0, 1, 2, 3, 4, 5, 6, 7, 8, 9, 10, 11, 12, 13, 14, 15, 16]) G0 u.2 ∧ jKe G0 u.2 H0 t.heap) (jA base)) (LC - H0.size) (LS - jTot H0) (jA base) := by
  refine Met.ofW (cc := cJ7_copyOf_59c91) (maxL := 3) (ret := (some (.array .int))) (by decide) rfl ?_
  intro p e s m args below meth c s₁ Bd hml hv
  obtain ⟨rfl, hH0, hX, hG, hg_r0, hP0, hLC0, hLS0, hp0, hp1, hp2, hp3⟩ := hv
  have hK := hG.1
  have hx := Bd.exec
  have hb := Bd.bytes
  have hr := Bd.returns
  have hts := atoms_spec (ws := (jw yJ7_copyOf_59c91 cJ7_copyOf_59c91 3 (some (.array .int)))) Bd.pre
  have htw : ∀ w ∈ jWl, w.before _ s = true := fun w h => hts w (List.mem_cons_of_mem _ h)
  have hown : s.vm.findClass RJ7 = some m.cls := findClass_of_methodNamed Bd.named
  have hlocks := Bd.notSynchronized
  obtain ⟨Q, hQ⟩ : ∃ Q, Q = MQ below (jQx (S := Nat × jT) (fun v u => jRf u.2 101 u.1 v ∧ jNwv v H0 ∧ u.1 = a1.toInt) (fun u t => jRa (dC, dI) B base G0 u.2 EJ7_copyOf_59c91 H0 (1) (u.1) [] t.heap ∧ (jNk [0, 1, 2, 3, 4, 5, 6, 7, 8, 9, 10, 11, 12, 13, 14, 15, 16]) G0 u.2 ∧ jKe G0 u.2 H0 t.heap) (jA base)) ([.ref r0, .int a1] : List Value).toArray s (LC - H0.size) (LS - jTot H0) (jA base) := ⟨_, rfl⟩
  rw [← hQ]
  have hl := lv_entry ([.ref r0, .int a1]) (n := 3) (Nat.le_of_ble_eq_true rfl)
  rw [lg_entry_eq]
  generalize (lg_sl ([.ref r0, .int a1]) ++ List.replicate (3 - (lg_sl ([.ref r0, .int a1])).length) Slot.unset).toArray = ls at hl ⊢
  have hl : lv_has ls 3 [(0, .ref r0), (1, .int a1)] := hl
  generalize hR : (headSpec (jw yJ7_copyOf_59c91 cJ7_copyOf_59c91 3 (some (.array .int))) ({ frames := 1, cells := LC - H0.size, slots := LS - jTot H0, locals := 61 })).room = R
  subst hH0
  have hh : jSt (dC, dI) B base G0 G0 EJ7_copyOf_59c91 s.heap 0 0 [] [] [] s.heap [] := jSt.start hX hP0 jMc.nil jIs.nil
  clear hX hP0
  have hk0 : (0 : Int32).toInt = 0 := by decide
  have hk1 : (1 : Int32).toInt = 1 := by decide
  have hrg_a1 := jb_rng a1
  have hbs : base ≤ s.heap.size := Nat.le_of_lt (Nat.lt_of_le_of_lt (hh.ab hg_r0).1 (hh.ab hg_r0).2)
  have hRc : R.cells = LC - s.heap.size := by rw [← hR]; rfl
  have hRs : R.slots = LS - jTot s.heap := by rw [← hR]; rfl
  have hkp : jKe G0 G0 s.heap s.heap := jKe.rf
  refine lv_iload_n hx hb dJ7_copyOf_59c91_0 rfl (lv_at hl 1 rfl) ?_
  refine lv_aload_n hx hb dJ7_copyOf_59c91_1 rfl (lv_at hl 0 rfl) ?_
  refine j7_len hx hb hK hh hB101 1 rfl (by decide) hg_r0 (by omega) dJ7_copyOf_59c91_2 (fun z_1 hz_1 => ?_)
  refine lv_icmp_ne (tgt := 14) hx hb dJ7_copyOf_59c91_3 (by decide) (fun c_2 => ?_) (fun c_2 => ?_)
  · skip
    have c_2' : a1.toInt ≠ z_1.toInt := jb_ne (rfl) (rfl) c_2
    refine lv_iload_n hx hb dJ7_copyOf_59c91_14 rfl (lv_at hl 1 rfl) ?_
    have hsz_3 := hh.2.2.2.2.2.1
    have htt_3 := hh.2.2.2.2.2.2.1
    refine j7_newiK hx hb hK hh hB (atype := .int) (ty := .int) (htw (.arrayClass .int) (jWr_3 _ (List.mem_of_getElem? (i := 20) rfl))) rfl rfl (fun _ h => h) hB101 1 rfl (by decide) (by decide) hbs (x := a1.toInt) rfl (by omega) (fun j => by first | trivial | decide | rfl | exact Or.inl rfl | (refine ⟨?_, ?_⟩ <;> decide)) (by rw [hRc]; omega) (by rw [hRs]; omega) dJ7_copyOf_59c91_15 (fun H_3 hfr_3 hh_3 => ?_)
    have hh_3 : jSt (dC, dI) B base G0 (va_up G0 s.heap.size (some (101, (a1.toInt).toNat))) EJ7_copyOf_59c91 s.heap (0 + 1) (0 + (a1.toInt).toNat) [] [] [] H_3 [] := hh_3
    have hN_3 : (jNk [0, 1, 2, 3, 4, 5, 6, 7, 8, 9, 10, 11, 12, 13, 14, 15, 16]) G0 (va_up G0 s.heap.size (some (101, (a1.toInt).toNat))) := jNk.new (by decide)
    have hgn_3 : (va_up G0 s.heap.size (some (101, (a1.toInt).toNat))) s.heap.size = some (101, (a1.toInt).toNat) := jUp_self
    have hle_3 : jLe G0 (va_up G0 s.heap.size (some (101, (a1.toInt).toNat))) := jLe.new hh.2.1.fresh
    have hke_3 : jKe G0 (va_up G0 s.heap.size (some (101, (a1.toInt).toNat))) s.heap H_3 := jKe.new hfr_3
    have hsy_3 : s.heap.size ≤ s.heap.size := hh.1.1
    generalize (va_up G0 s.heap.size (some (101, (a1.toInt).toNat))) = G_3 at hN_3 hgn_3 hle_3 hke_3 hh_3
    generalize hnc_3 : (a1.toInt).toNat = nc_3 at hgn_3 hh_3 ⊢
    clear hh
    have hNn_3 : (jNk [0, 1, 2, 3, 4, 5, 6, 7, 8, 9, 10, 11, 12, 13, 14, 15, 16]) G0 G_3 := (jNk.rf).tr hN_3
    have hg_4 := hle_3 _ _ hg_r0
    have hkp_5 := hkp.tr hke_3
    refine lv_astore_n (lv' := [(2, .ref s.heap.size), (0, .ref r0), (1, .int a1)]) hx hb dJ7_copyOf_59c91_17 rfl hl (by decide) rfl (fun ls hl => ?_)
    refine lv_aload_n hx hb dJ7_copyOf_59c91_18 rfl (lv_at hl 1 rfl) ?_
    refine lv_iconst (v := 0) hx hb dJ7_copyOf_59c91_19 (by decide) ?_
    refine lv_aload_n hx hb dJ7_copyOf_59c91_20 rfl (lv_at hl 0 rfl) ?_
    refine lv_iconst (v := 0) hx hb dJ7_copyOf_59c91_21 (by decide) ?_
    refine lv_aload_n hx hb dJ7_copyOf_59c91_22 rfl (lv_at hl 1 rfl) ?_
    refine j7_len hx hb hK hh_3 hB101 1 rfl (by decide) hg_4 (by omega) dJ7_copyOf_59c91_23 (fun z_6 hz_6 => ?_)
    refine lv_iload_n hx hb dJ7_copyOf_59c91_24 rfl (lv_at hl 2 rfl) ?_
    have hsz_7 := hh_3.2.2.2.2.2.1
    have htt_7 := hh_3.2.2.2.2.2.2.1
    refine W.room (fun hrc_7 hrs_7 => ?_)
    refine va_mmin hx hb (by rw [hml]; exact hl.1.symm) hown (htw (.methodLink RJ7 304 Lib.Math.min.name) (jWr_16 _ (List.mem_of_getElem? (i := 15) rfl))) (htw (.static Lib.Math.min.name) (jWr_16 _ (List.mem_of_getElem? (i := 16) rfl))) (htw (.initialized "java/lang/Math") (jWr_3 _ (List.mem_of_getElem? (i := 7) rfl))) (htw (.code Lib.Math.min.name Lib.Math.min.code 2 (some .int)) (jWr_16 _ (List.mem_of_getElem? (i := 17) rfl))) (by rw [← hR]; exact Nat.le_of_ble_eq_true rfl) (by rw [← hR]; exact Nat.le_of_ble_eq_true rfl) (by rw [hRc]; omega) (by rw [hRs]; omega) dJ7_copyOf_59c91_25 ?_
    refine lv_topi (fun z_8 ez_8 => ?_)
    have hz_8 := jb_min ez_8
    refine j7_acopyi hx hb (by rw [hml]; exact hl.1.symm) hown (htw (.methodLink RJ7 150 arraycopyName) (jWr_16 _ (List.mem_of_getElem? (i := 18) rfl))) (htw (.native arraycopyName) (jWr_16 _ (List.mem_of_getElem? (i := 19) rfl))) (htw (.static arraycopyName) (jWr_16 _ (List.mem_of_getElem? (i := 20) rfl))) (htw (.initialized "java/lang/System") (jWr_16 _ (List.mem_of_getElem? (i := 21) rfl))) hK hh_3 hB hB101 hB101 1 rfl (by decide) (by decide) (by decide) rfl rfl rfl hg_4 hgn_3 (x := 0) (y := 0) (z := z_8.toInt) (by decide) (by decide) rfl (by omega) (fun _ _ _ => trivial) (by rw [← hR]; exact Nat.le_of_ble_eq_true rfl) (by rw [← hR]; exact Nat.le_of_ble_eq_true rfl) dJ7_copyOf_59c91_28 (fun H_9 locs_9 hr_9 hh_9 => ?_)
    have hkp_10 := hkp_5.st hsy_3 hr_9
    clear hr_9
    clear hh_3
    refine lv_aload_n hx hb dJ7_copyOf_59c91_31 rfl (lv_at hl 0 rfl) ?_
    have hsz_11 := hh_9.2.2.2.2.2.1
    have htt_11 := hh_9.2.2.2.2.2.2.1
    refine W.room (fun hrc_11 hrs_11 => ?_)
    refine W.widen (k := LC - s.heap.size) (n := LS - jTot s.heap) (by omega) (by omega) ?_
    rw [hQ]
    exact W.aret (v := .ref s.heap.size) hx hb hr (Or.inr ⟨_, rfl⟩) (Or.inr ⟨_, rfl⟩) (fun t ht hW => ⟨⟨.ref s.heap.size, (nc_3, G_3), rfl, ⟨⟨_, rfl, hgn_3⟩, ⟨_, rfl, hsy_3⟩, by (try dsimp only); first | omega | rfl | assumption | fail⟩, ⟨hh_9.ra (by first | omega | (simp only; omega)) (by first | omega | (simp only; omega)) (M1 := []) [] rfl ht, hNn_3, by rw [ht]; exact hkp_10⟩⟩, by rw [ht]; try exact hh_9.1.1, fun q h9 hq => by rw [ht]; try exact hh_9.1.2.1 q h9 hq⟩) hh_9.1.2.2 dJ7_copyOf_59c91_32
  · skip
    have c_2' : a1.toInt = z_1.toInt := jb_ne_n (rfl) (rfl) c_2
    exact absurd c_2' (by omega)
set_option maxHeartbeats 4000000 in
set_option maxRecDepth 20000 in
theorem uX9_longer (l : Launch) (dC : Nat → ClassId) (dI : Nat → Nat → Nat) (ca : Nat → ClassId) (base : Nat) (B : jF) (hB : jBok B) (hAp : jAp (dC, dI)) (hB101 : ∀ n G a H, B 101 n G a H ↔ jAr (dC, dI) (ca 1) (fun j z => True) n a H) (G0 : jT) (H0 : Heap) (r0 : Nat) (a1 : Int32) (n0 : Nat) (LC LS : Nat) : Met l yX9_longer (jw yX9_longer cX9_longer 3 (some (.array .int))) ({ frames := 2, cells := LC - H0.size, slots := LS - jTot H0, locals := 83 }) (va_Pc [.ref r0, .int a1] (fun U => U.heap = H0 ∧ jX B base G0 [] H0 ∧ jG dC dI ca base U ∧ G0 r0 = some (101, n0) ∧ jP (dC, dI) G0 H0 [] ∧ H0.size + 1 ≤ LC ∧ jTot H0 + n0 + 1 ≤ LS ∧ n0 ≤ 100)) (jQx (S := Nat × jT) (fun v u => jRf u.2 101 u.1 v ∧ jNwv v H0 ∧ u.1 = n0 + 1) (fun u t => jRa (dC, dI) B base G0 u.2 EX9_longer H0 (1) (u.1) [] t.heap ∧ (jNk [0, 1, 2, 3, 4, 5, 6, 7, 8, 9, 10, 11, 12, 13, 14, 15, 16]) G0 u.2 ∧ jKe G0 u.2 H0 t.heap) (jA base)) (LC - H0.size) (LS - jTot H0) (jA base) := by
  refine Met.ofW (cc := cX9_longer) (maxL := 3) (ret := (some (.array .int))) (by decide) rfl ?_
  intro p e s m args below meth c s₁ Bd hml hv
  obtain ⟨rfl, hH0, hX, hG, hg_r0, hP0, hLC0, hLS0, hp0⟩ := hv
  have hK := hG.1
  have hx := Bd.exec
  have hb := Bd.bytes
  have hr := Bd.returns
  have hts := atoms_spec (ws := (jw yX9_longer cX9_longer 3 (some (.array .int)))) Bd.pre
  have htw : ∀ w ∈ jWl, w.before _ s = true := fun w h => hts w (List.mem_cons_of_mem _ h)
  have hown : s.vm.findClass RX9 = some m.cls := findClass_of_methodNamed Bd.named
  have hlocks := Bd.notSynchronized
  obtain ⟨Q, hQ⟩ : ∃ Q, Q = MQ below (jQx (S := Nat × jT) (fun v u => jRf u.2 101 u.1 v ∧ jNwv v H0 ∧ u.1 = n0 + 1) (fun u t => jRa (dC, dI) B base G0 u.2 EX9_longer H0 (1) (u.1) [] t.heap ∧ (jNk [0, 1, 2, 3, 4, 5, 6, 7, 8, 9, 10, 11, 12, 13, 14, 15, 16]) G0 u.2 ∧ jKe G0 u.2 H0 t.heap) (jA base)) ([.ref r0, .int a1] : List Value).toArray s (LC - H0.size) (LS - jTot H0) (jA base) := ⟨_, rfl⟩
  rw [← hQ]
  have hl := lv_entry ([.ref r0, .int a1]) (n := 3) (Nat.le_of_ble_eq_true rfl)
  rw [lg_entry_eq]
  generalize (lg_sl ([.ref r0, .int a1]) ++ List.replicate (3 - (lg_sl ([.ref r0, .int a1])).length) Slot.unset).toArray = ls at hl ⊢
  have hl : lv_has ls 3 [(0, .ref r0), (1, .int a1)] := hl
  generalize hR : (headSpec (jw yX9_longer cX9_longer 3 (some (.array .int))) ({ frames := 2, cells := LC - H0.size, slots := LS - jTot H0, locals := 83 })).room = R
  subst hH0
  have hh : jSt (dC, dI) B base G0 G0 EX9_longer s.heap 0 0 [] [] [] s.heap [] := jSt.start hX hP0 jMc.nil jIs.nil
  clear hX hP0
  have hk0 : (0 : Int32).toInt = 0 := by decide
  have hk1 : (1 : Int32).toInt = 1 := by decide
  have hrg_a1 := jb_rng a1
  have hbs : base ≤ s.heap.size := Nat.le_of_lt (Nat.lt_of_le_of_lt (hh.ab hg_r0).1 (hh.ab hg_r0).2)
  have hRc : R.cells = LC - s.heap.size := by rw [← hR]; rfl
  have hRs : R.slots = LS - jTot s.heap := by rw [← hR]; rfl
  have hkp : jKe G0 G0 s.heap s.heap := jKe.rf
  refine lv_aload_n hx hb dX9_longer_0 rfl (lv_at hl 0 rfl) ?_
  refine lv_aload_n hx hb dX9_longer_1 rfl (lv_at hl 0 rfl) ?_
  refine j7_len hx hb hK hh hB101 1 rfl (by decide) hg_r0 (by omega) dX9_longer_2 (fun z_1 hz_1 => ?_)
  refine lv_iconst (v := 1) hx hb dX9_longer_3 (by decide) ?_
  refine lv_iadd hx hb dX9_longer_4 ?_
  refine lv_topi (fun z_2 ez_2 => ?_)
  have hz_2 : z_2.toInt = z_1.toInt + 1 := by rw [ez_2]; exact jb_iadd2 (rfl) ((by decide)) (by omega)
  have hsz_3 := hh.2.2.2.2.2.1
  have htt_3 := hh.2.2.2.2.2.2.1
  refine W.room (fun hrc_3 hrs_3 => ?_)
  refine j_callx (A0 := jA base) (H0 := s.heap) (va_runS (As := [.ref r0, .int z_2]) (rest := []) ⟨hx, hb, hml, hown, hts⟩ (uJ7_copyOf_59c91 l dC dI ca base B hB hAp hB101 G0 s.heap r0 z_2 n0 LC LS) (va_cwS 2 hts (jgS (jWr_81 _ (List.mem_of_getElem? (i := 22) rfl)) (jWr_81 _ (List.mem_of_getElem? (i := 23) rfl)) (jWr_16 _ (List.mem_of_getElem? (i := 7) rfl)) (jWr_82 _ (List.mem_of_getElem? (i := 0) rfl))) rfl rfl rfl (by decide +kernel) ⟨by rw [← hR]; exact Nat.le_of_ble_eq_true rfl, by rw [← hR]; exact Nat.le_of_ble_eq_true rfl⟩) ⟨fun a U g mk q => by obtain ⟨q0, q1, q2, qK, q10, q11, q12⟩ := q; exact ⟨q0, q1, q2, jG.calling g mk a qK, q10, q11, q12⟩, fun U hU hW => ⟨rfl, hU, hh.2.1, hG.step hW hU hh.1, hg_r0, jP.nil, by first | omega | (refine ⟨?_, ?_, ?_, ?_⟩ <;> (first | omega | rfl | assumption | decide | exact Or.inl rfl | exact Or.inr rfl | (simp only; omega)))⟩⟩ rfl rfl hl.1 rfl (lv_room (Nat.le_of_ble_eq_true rfl)) dX9_longer_5 ⟨by rw [hRc]; omega, by rw [hRs]; omega⟩) hh.1 (fun q _ h => h) (fun q h => h) (fun r_4 u_3 t_3 H_3 locs_3 ht_3 hvm_3 hr_4 hb_3 hz_3 hk_3 hS_3 => ?_)
  rw [ht_3] at hb_3
  obtain ⟨m_ret_3, G_3⟩ := u_3
  simp only at hb_3
  obtain ⟨⟨hb_31, hb_32, hb_33, hb_34, hb_35, hb_36⟩, hN_3, hbK_3⟩ := hb_3
  have hh_3 : jSt (dC, dI) B base G0 G_3 EX9_longer s.heap (0 + (1)) (0 + (m_ret_3)) [] [] [] H_3 locs_3 := (hh.callG hb_31 hb_32 hb_33 hb_34 hb_35 hS_3 rfl (L1 := []) [] rfl rfl (M1 := []) [] rfl rfl (I1 := []) [] rfl rfl).more hb_36
  have hNn_3 : (jNk [0, 1, 2, 3, 4, 5, 6, 7, 8, 9, 10, 11, 12, 13, 14, 15, 16]) G0 G_3 := (jNk.rf).tr hN_3
  have hg_5 := hb_32 _ _ hg_r0
  obtain ⟨hr_4, hr_4n, hr_4p⟩ := hr_4
  try simp only at hr_4p
  have hkp_6 := hkp.tr hbK_3
  obtain ⟨ret_7, rfl, hg_ret_7⟩ := hr_4
  have hsy_3 : s.heap.size ≤ ret_7 := Nat.le_trans hh.1.1 hr_4n.le
  refine lv_astore_n (lv' := [(2, .ref ret_7), (0, .ref r0), (1, .int a1)]) hx hb dX9_longer_8 rfl hl (by decide) rfl (fun ls hl => ?_)
  refine lv_aload_n hx hb dX9_longer_9 rfl (lv_at hl 0 rfl) ?_
  refine lv_aload_n hx hb dX9_longer_10 rfl (lv_at hl 1 rfl) ?_
  refine j7_len hx hb hK hh_3 hB101 1 rfl (by decide) hg_5 (by omega) dX9_longer_11 (fun z_8 hz_8 => ?_)
  refine lv_iload_n hx hb dX9_longer_12 rfl (lv_at hl 2 rfl) ?_
  refine j7_iastF hx hb hK hh_3 hB hB101 1 rfl (by decide) (by decide) rfl rfl rfl hg_ret_7 (x := z_8.toInt) (rfl) (by omega) (trivial) dX9_longer_13 (fun H_9 locs_9 hr_9 hh_9 => ?_)
  have hkp_10 := hkp_6.st hsy_3 hr_9
  clear hr_9
  clear hh_3
  refine lv_aload_n hx hb dX9_longer_14 rfl (lv_at hl 0 rfl) ?_
  have hsz_11 := hh_9.2.2.2.2.2.1
  have htt_11 := hh_9.2.2.2.2.2.2.1
  refine W.room (fun hrc_11 hrs_11 => ?_)
  refine W.widen (k := LC - s.heap.size) (n := LS - jTot s.heap) (by omega) (by omega) ?_
  rw [hQ]
  exact W.aret (v := .ref ret_7) hx hb hr (Or.inr ⟨_, rfl⟩) (Or.inr ⟨_, rfl⟩) (fun t ht hW => ⟨⟨.ref ret_7, (m_ret_3, G_3), rfl, ⟨⟨_, rfl, hg_ret_7⟩, ⟨_, rfl, hsy_3⟩, by (try dsimp only); first | omega | rfl | assumption | fail⟩, ⟨hh_9.ra (by first | omega | (simp only; omega)) (by first | omega | (simp only; omega)) (M1 := []) [] rfl ht, hNn_3, by rw [ht]; exact hkp_10⟩⟩, by rw [ht]; try exact hh_9.1.1, fun q h9 hq => by rw [ht]; try exact hh_9.1.2.1 q h9 hq⟩) hh_9.1.2.2 dX9_longer_15
end
section
theorem dX3_init_0 : decode cX3_init 0 = .ok (.aload_n 0, 1) := by decide +kernel
theorem dX3_init_1 : decode cX3_init 1 = .ok (.invokespecial 3, 3) := by decide +kernel
theorem dX3_init_4 : decode cX3_init 4 = .ok (.aload_n 0, 1) := by decide +kernel
theorem dX3_init_5 : decode cX3_init 5 = .ok (.aload_n 1, 1) := by decide +kernel
theorem dX3_init_6 : decode cX3_init 6 = .ok (.putfield 9, 3) := by decide +kernel
theorem dX3_init_9 : decode cX3_init 9 = .ok (.aload_n 0, 1) := by decide +kernel
theorem dX3_init_10 : decode cX3_init 10 = .ok (.aload_n 2, 1) := by decide +kernel
theorem dX3_init_11 : decode cX3_init 11 = .ok (.putfield 15, 3) := by decide +kernel
theorem dX3_init_14 : decode cX3_init 14 = .ok (.aload_n 0, 1) := by decide +kernel
theorem dX3_init_15 : decode cX3_init 15 = .ok (.aload_n 3, 1) := by decide +kernel
theorem dX3_init_16 : decode cX3_init 16 = .ok (.putfield 18, 3) := by decide +kernel
theorem dX3_init_19 : decode cX3_init 19 = .ok (.aload_n 0, 1) := by decide +kernel
theorem dX3_init_20 : decode cX3_init 20 = .ok (.aload 4, 2) := by decide +kernel
theorem dX3_init_22 : decode cX3_init 22 = .ok (.putfield 22, 3) := by decide +kernel
theorem dX3_init_25 : decode cX3_init 25 = .ok (.return_, 1) := by decide +kernel
theorem dX3_withFormula_0 : decode cX3_withFormula 0 = .ok (.new 10, 3) := by decide +kernel
theorem dX3_withFormula_3 : decode cX3_withFormula 3 = .ok (.dup, 1) := by decide +kernel
theorem dX3_withFormula_4 : decode cX3_withFormula 4 = .ok (.aload_n 0, 1) := by decide +kernel
theorem dX3_withFormula_5 : decode cX3_withFormula 5 = .ok (.getfield 9, 3) := by decide +kernel
theorem dX3_withFormula_8 : decode cX3_withFormula 8 = .ok (.aload_n 0, 1) := by decide +kernel
theorem dX3_withFormula_9 : decode cX3_withFormula 9 = .ok (.getfield 15, 3) := by decide +kernel
theorem dX3_withFormula_12 : decode cX3_withFormula 12 = .ok (.aload_n 0, 1) := by decide +kernel
theorem dX3_withFormula_13 : decode cX3_withFormula 13 = .ok (.getfield 18, 3) := by decide +kernel
theorem dX3_withFormula_16 : decode cX3_withFormula 16 = .ok (.aload_n 1, 1) := by decide +kernel
theorem dX3_withFormula_17 : decode cX3_withFormula 17 = .ok (.invokespecial 25, 3) := by decide +kernel
theorem dX3_withFormula_20 : decode cX3_withFormula 20 = .ok (.areturn, 1) := by decide +kernel
theorem dX3_withVariable_0 : decode cX3_withVariable 0 = .ok (.new 10, 3) := by decide +kernel
theorem dX3_withVariable_3 : decode cX3_withVariable 3 = .ok (.dup, 1) := by decide +kernel
theorem dX3_withVariable_4 : decode cX3_withVariable 4 = .ok (.aload_n 0, 1) := by decide +kernel
theorem dX3_withVariable_5 : decode cX3_withVariable 5 = .ok (.getfield 9, 3) := by decide +kernel
theorem dX3_withVariable_8 : decode cX3_withVariable 8 = .ok (.iload_n 1, 1) := by decide +kernel
theorem dX3_withVariable_9 : decode cX3_withVariable 9 = .ok (.invokestatic 28, 3) := by decide +kernel
theorem dX3_withVariable_12 : decode cX3_withVariable 12 = .ok (.aload_n 0, 1) := by decide +kernel
theorem dX3_withVariable_13 : decode cX3_withVariable 13 = .ok (.getfield 15, 3) := by decide +kernel
theorem dX3_withVariable_16 : decode cX3_withVariable 16 = .ok (.aload_n 0, 1) := by decide +kernel
theorem dX3_withVariable_17 : decode cX3_withVariable 17 = .ok (.getfield 18, 3) := by decide +kernel
theorem dX3_withVariable_20 : decode cX3_withVariable 20 = .ok (.aload_n 2, 1) := by decide +kernel
theorem dX3_withVariable_21 : decode cX3_withVariable 21 = .ok (.invokespecial 25, 3) := by decide +kernel
theorem dX3_withVariable_24 : decode cX3_withVariable 24 = .ok (.areturn, 1) := by decide +kernel
def EX3_init : List (Nat × Nat) := []
def EX3_initZ : List (Nat × Nat) := []
def EX3_withFormula : List (Nat × Nat) := []
def EX3_withFormulaZ : List (Nat × Nat) := []
def EX3_withVariable : List (Nat × Nat) := [(101, 0)]
def EX3_withVariableZ : List (Nat × Nat) := [(101, 0)]
set_option maxHeartbeats 4000000 in
set_option maxRecDepth 20000 in
theorem uX3_init (l : Launch) (dC : Nat → ClassId) (dI : Nat → Nat → Nat) (ca : Nat → ClassId) (base : Nat) (B : jF) (hB : jBok B) (hAp : jAp (dC, dI)) (hB5 : ∀ n G a H, B 5 n G a H ↔ jOb (dC, dI) 5 4 (F5 n G) a H) (hB101 : ∀ n G a H, B 101 n G a H ↔ jAr (dC, dI) (ca 1) (fun j z => True) n a H) (hB280 : ∀ n G a H, B 280 n G a H ↔ jAr (dC, dI) (ca 1) (fun j z => -1 ≤ z.toInt) n a H) (hB313 : ∀ n G a H, B 313 n G a H ↔ jAq (dC, dI) (ca 8) (jQk 280 80) n G a H) (G0 : jT) (H0 : Heap) (r0 : Nat) (r1 : Nat) (r2 : Nat) (r3 : Nat) (r4 : Nat) (n1 : Nat) (n2 : Nat) (n3 : Nat) (n4 : Nat) (kn : Nat) (LC LS : Nat) : Met l yX3_init (jw yX3_init cX3_init 5 none) ({ frames := 1, cells := LC - H0.size, slots := LS - jTot H0, locals := 31 }) (va_Pc [.ref r0, .ref r1, .ref r2, .ref r3, .ref r4] (fun U => U.heap = H0 ∧ jX B base G0 [] H0 ∧ jG dC dI ca base U ∧ G0 r1 = some (101, n1) ∧ G0 r2 = some (101, n2) ∧ G0 r3 = some (313, n3) ∧ G0 r4 = some (280, n4) ∧ va_at (dC, dI) vwCl (r0, .inr (5, [.null, .null, .null, .null])) H0 ∧ (∀ t, G0 r0 ≠ some t) ∧ base ≤ r0 ∧ jP (dC, dI) G0 H0 [] ∧ H0.size + 0 ≤ LC ∧ jTot H0 + 0 ≤ LS ∧ n3 = n2 ∧ n1 ≤ 7 ∧ n2 ≤ 9 ∧ kn / 10 = n2 ∧ n4 ≤ 80 ∧ ((kn % 10 = 1 ∧ n1 ≤ 6 ∧ n2 ≤ 8) ∨ (kn % 10 = 2 ∧ 6 < n1) ∨ (kn % 10 = 3 ∧ 8 < n2)))) (va_Qv (S := jT) (fun u => True) (fun u t => jRa (dC, dI) B base G0 u EX3_init H0 (0) (0) [] t.heap ∧ (jNk [0, 1, 2, 3, 4, 6, 7, 8, 9, 10, 11, 12, 13, 14, 15, 16]) G0 u ∧ u r0 = some (5, kn) ∧ jKx r0 G0 u H0 t.heap) (jA base)) (LC - H0.size) (LS - jTot H0) (jA base) := by
  refine Met.ofW (cc := cX3_init) (maxL := 5) (ret := none) (by decide) rfl ?_
  intro p e s m args below meth c s₁ Bd hml hv
  obtain ⟨rfl, hH0, hX, hG, hg_r1, hg_r2, hg_r3, hg_r4, hraw0, hnr0, hbr0, hP0, hLC0, hLS0, hp0, hp1, hp2, hp3, hp4, hp5⟩ := hv
  have hK := hG.1
  have hx := Bd.exec
  have hb := Bd.bytes
  have hr := Bd.returns
  have hts := atoms_spec (ws := (jw yX3_init cX3_init 5 none)) Bd.pre
  have htw : ∀ w ∈ jWl, w.before _ s = true := fun w h => hts w (List.mem_cons_of_mem _ h)
  have hown : s.vm.findClass RX3 = some m.cls := findClass_of_methodNamed Bd.named
  have hlocks := Bd.notSynchronized
  obtain ⟨Q, hQ⟩ : ∃ Q, Q = MQ below (va_Qv (S := jT) (fun u => True) (fun u t => jRa (dC, dI) B base G0 u EX3_init H0 (0) (0) [] t.heap ∧ (jNk [0, 1, 2, 3, 4, 6, 7, 8, 9, 10, 11, 12, 13, 14, 15, 16]) G0 u ∧ u r0 = some (5, kn) ∧ jKx r0 G0 u H0 t.heap) (jA base)) ([.ref r0, .ref r1, .ref r2, .ref r3, .ref r4] : List Value).toArray s (LC - H0.size) (LS - jTot H0) (jA base) := ⟨_, rfl⟩
  rw [← hQ]
  have hl := lv_entry ([.ref r0, .ref r1, .ref r2, .ref r3, .ref r4]) (n := 5) (Nat.le_of_ble_eq_true rfl)
  rw [lg_entry_eq]
  generalize (lg_sl ([.ref r0, .ref r1, .ref r2, .ref r3, .ref r4]) ++ List.replicate (5 - (lg_sl ([.ref r0, .ref r1, .ref r2, .ref r3, .ref r4])).length) Slot.unset).toArray = ls at hl ⊢
  have hl : lv_has ls 5 [(0, .ref r0), (1, .ref r1), (2, .ref r2), (3, .ref r3), (4, .ref r4)] := hl
  generalize hR : (headSpec (jw yX3_init cX3_init 5 none) ({ frames := 1, cells := LC - H0.size, slots := LS - jTot H0, locals := 31 })).room = R
  subst hH0
  have hh : jSt (dC, dI) B base G0 G0 EX3_init s.heap 0 0 [] [] [] s.heap [] := jSt.start hX hP0 jMc.nil jIs.nil
  clear hX hP0
  have hk0 : (0 : Int32).toInt = 0 := by decide
  have hk1 : (1 : Int32).toInt = 1 := by decide
  have hly_5_0 := htw (u_lay RX3 TX3 0) (jWc_wsX30 _ (u_in_lay (by decide)))
  have hly_5_1 := htw (u_lay RX3 TX3 1) (jWc_wsX30 _ (u_in_lay (by decide)))
  have hly_5_2 := htw (u_lay RX3 TX3 2) (jWc_wsX30 _ (u_in_lay (by decide)))
  have hly_5_3 := htw (u_lay RX3 TX3 3) (jWc_wsX30 _ (u_in_lay (by decide)))
  have hlk_9 := (htw (.fieldLink RX3 9 "ProofServer$Goal" "variables" "[I") (jWr_83 _ (List.mem_of_getElem? (i := 10) rfl)))
  have hlk_15 := (htw (.fieldLink RX3 15 "ProofServer$Goal" "names" "[I") (jWr_83 _ (List.mem_of_getElem? (i := 11) rfl)))
  have hlk_18 := (htw (.fieldLink RX3 18 "ProofServer$Goal" "hypotheses" "[[I") (jWr_83 _ (List.mem_of_getElem? (i := 12) rfl)))
  have hlk_22 := (htw (.fieldLink RX3 22 "ProofServer$Goal" "formula" "[I") (jWr_83 _ (List.mem_of_getElem? (i := 13) rfl)))
  have hbs : base ≤ s.heap.size := Nat.le_of_lt (Nat.lt_of_le_of_lt hbr0 hraw0.lt)
  have hRc : R.cells = LC - s.heap.size := by rw [← hR]; rfl
  have hRs : R.slots = LS - jTot s.heap := by rw [← hR]; rfl
  have hin2 : meth.name = "<init>" := (name_of_methodNamed Bd.named Bd.method).1
  have hkp : jKx r0 G0 G0 s.heap s.heap := jKx.rf
  refine lv_aload_n hx hb dX3_init_0 rfl (lv_at hl 0 rfl) ?_
  refine W.objInit hx hb hown (htw (.methodLink RX3 3 objectInit) (jWr_83 _ (List.mem_of_getElem? (i := 9) rfl))) (htw (.instanceMethod objectInit) (jWr_1 _ (List.mem_of_getElem? (i := 10) rfl))) (htw (.code objectInit ⟨#[0xb1]⟩ 1 none) (jWr_1 _ (List.mem_of_getElem? (i := 11) rfl))) rfl (by rw [hml]; exact hl.1) rfl dX3_init_1 (by rw [← hR]; exact Nat.le_of_ble_eq_true rfl) (by rw [← hR]; exact Nat.le_of_ble_eq_true rfl) ?_
  refine W.eq (g2 := F0 m 4 ls []) rfl ?_
  refine lv_aload_n hx hb dX3_init_4 rfl (lv_at hl 0 rfl) ?_
  refine lv_aload_n hx hb dX3_init_5 rfl (lv_at hl 1 rfl) ?_
  refine j7_putRF hx hb hown hK hh hB hAp hraw0 hnr0 hbr0 (C := RX3) (T := TX3) (N := 4) rfl (i := 0) (by decide) (Nat.le_of_ble_eq_true rfl) hly_5_0 rfl hin2 rfl hlk_9 (ty := (.array .int)) (v := .ref r1) (by decide +kernel) rfl rfl dX3_init_6 (fun H_1 locs_1 hraw_1 hr_1 hh_1 => ?_)
  have hraw_1 : va_at (dC, dI) vwCl (r0, .inr (5, [.ref r1, .null, .null, .null])) H_1 := hraw_1
  have hkp_2 := hkp.put hr_1
  clear hh
  refine lv_aload_n hx hb dX3_init_9 rfl (lv_at hl 0 rfl) ?_
  refine lv_aload_n hx hb dX3_init_10 rfl (lv_at hl 2 rfl) ?_
  refine j7_putRF hx hb hown hK hh_1 hB hAp hraw_1 hnr0 hbr0 (C := RX3) (T := TX3) (N := 4) rfl (i := 1) (by decide) (Nat.le_of_ble_eq_true rfl) hly_5_1 rfl hin2 rfl hlk_15 (ty := (.array .int)) (v := .ref r2) (by decide +kernel) rfl rfl dX3_init_11 (fun H_3 locs_3 hraw_3 hr_3 hh_3 => ?_)
  have hraw_3 : va_at (dC, dI) vwCl (r0, .inr (5, [.ref r1, .ref r2, .null, .null])) H_3 := hraw_3
  have hkp_4 := hkp_2.put hr_3
  clear hh_1
  refine lv_aload_n hx hb dX3_init_14 rfl (lv_at hl 0 rfl) ?_
  refine lv_aload_n hx hb dX3_init_15 rfl (lv_at hl 3 rfl) ?_
  refine j7_putRF hx hb hown hK hh_3 hB hAp hraw_3 hnr0 hbr0 (C := RX3) (T := TX3) (N := 4) rfl (i := 2) (by decide) (Nat.le_of_ble_eq_true rfl) hly_5_2 rfl hin2 rfl hlk_18 (ty := (.array (.array .int))) (v := .ref r3) (by decide +kernel) rfl rfl dX3_init_16 (fun H_5 locs_5 hraw_5 hr_5 hh_5 => ?_)
  have hraw_5 : va_at (dC, dI) vwCl (r0, .inr (5, [.ref r1, .ref r2, .ref r3, .null])) H_5 := hraw_5
  have hkp_6 := hkp_4.put hr_5
  clear hh_3
  refine lv_aload_n hx hb dX3_init_19 rfl (lv_at hl 0 rfl) ?_
  refine lv_aload hx hb dX3_init_20 (lv_at hl 4 rfl) ?_
  refine j7_putRF hx hb hown hK hh_5 hB hAp hraw_5 hnr0 hbr0 (C := RX3) (T := TX3) (N := 4) rfl (i := 3) (by decide) (Nat.le_of_ble_eq_true rfl) hly_5_3 rfl hin2 rfl hlk_22 (ty := (.array .int)) (v := .ref r4) (by decide +kernel) rfl rfl dX3_init_22 (fun H_7 locs_7 hraw_7 hr_7 hh_7 => ?_)
  have hraw_7 : va_at (dC, dI) vwCl (r0, .inr (5, [.ref r1, .ref r2, .ref r3, .ref r4])) H_7 := hraw_7
  have hkp_8 := hkp_6.put hr_7
  clear hh_5
  have hsz_9 := hh_7.2.2.2.2.2.1
  have htt_9 := hh_7.2.2.2.2.2.2.1
  refine W.room (fun hrc_9 hrs_9 => ?_)
  refine W.widen (k := LC - s.heap.size) (n := LS - jTot s.heap) (by omega) (by omega) ?_
  rw [hQ]
  have hle_10 : jLe G0 (va_up G0 r0 (some (5, kn))) := jLe.typ hnr0
  have hg_11 := hle_10 _ _ hg_r1
  have hg_12 := hle_10 _ _ hg_r2
  have hg_13 := hle_10 _ _ hg_r3
  have hg_14 := hle_10 _ _ hg_r4
  have hg_15 := (jLe.rf).tr hle_10 _ _ hg_r1
  have hg_16 := (jLe.rf).tr hle_10 _ _ hg_r2
  have hg_17 := (jLe.rf).tr hle_10 _ _ hg_r3
  have hg_18 := (jLe.rf).tr hle_10 _ _ hg_r4
  have hfa_10 : jGv kn (va_up G0 r0 (some (5, kn))) (.ref r1) ∧ jGn kn (va_up G0 r0 (some (5, kn))) (.ref r2) ∧ jGh kn (va_up G0 r0 (some (5, kn))) (.ref r3) ∧ jGfo kn (va_up G0 r0 (some (5, kn))) (.ref r4) ∧ True := ⟨⟨_, _, rfl, hg_15, by omega, by omega, by omega⟩, ⟨_, rfl, jSz hg_16 (by omega)⟩, ⟨_, 313, rfl, jSz hg_17 (by omega), by omega, by omega, by omega, by omega, by omega⟩, Or.inr ⟨_, _, rfl, hg_18, by omega, by omega, by omega⟩, trivial⟩
  have hh_10 := hh_7.typ (k := 5) (n := kn) hB hnr0 hbr0 hraw_7.lt (jOb.of (C := RX3) (T := TX3) (N := 4) (F := F5) hB5 rfl hraw_7 (show jFx (F5 kn (va_up G0 r0 (some (5, kn)))) [.ref r1, .ref r2, .ref r3, .ref r4] from hfa_10))
  have hgn_10 : (va_up G0 r0 (some (5, kn))) r0 = some (5, kn) := jUp_self
  have hN_10 : (jNk [0, 1, 2, 3, 4, 6, 7, 8, 9, 10, 11, 12, 13, 14, 15, 16]) G0 (va_up G0 r0 (some (5, kn))) := jNk.new (by decide)
  have hNn_10 : (jNk [0, 1, 2, 3, 4, 6, 7, 8, 9, 10, 11, 12, 13, 14, 15, 16]) G0 (va_up G0 r0 (some (5, kn))) := (jNk.rf).tr hN_10
  have hkp_19 := hkp_8.typ (t := some (5, kn))
  exact W.vret hx hb hr (fun t ht hW => ⟨⟨(va_up G0 r0 (some (5, kn))), rfl, trivial, ⟨hh_10.ra (by first | omega | (simp only; omega)) (by first | omega | (simp only; omega)) (M1 := []) [] rfl ht, hNn_10, hgn_10, by rw [ht]; exact hkp_19⟩⟩, by rw [ht]; try exact hh_10.1.1, fun q h9 hq => by rw [ht]; try exact hh_10.1.2.1 q h9 hq⟩) hh_10.1.2.2 dX3_init_25
set_option maxHeartbeats 4000000 in
set_option maxRecDepth 20000 in
theorem uX3_initZ (l : Launch) (dC : Nat → ClassId) (dI : Nat → Nat → Nat) (ca : Nat → ClassId) (base : Nat) (B : jF) (hB : jBok B) (hAp : jAp (dC, dI)) (hB5 : ∀ n G a H, B 5 n G a H ↔ jOb (dC, dI) 5 4 (F5 n G) a H) (hB101 : ∀ n G a H, B 101 n G a H ↔ jAr (dC, dI) (ca 1) (fun j z => True) n a H) (hB280 : ∀ n G a H, B 280 n G a H ↔ jAr (dC, dI) (ca 1) (fun j z => -1 ≤ z.toInt) n a H) (hB313 : ∀ n G a H, B 313 n G a H ↔ jAq (dC, dI) (ca 8) (jQk 280 80) n G a H) (G0 : jT) (H0 : Heap) (r0 : Nat) (r1 : Nat) (r2 : Nat) (r3 : Nat) (n1 : Nat) (n2 : Nat) (n3 : Nat) (kn : Nat) (LC LS : Nat) : Met l yX3_init (jw yX3_init cX3_init 5 none) ({ frames := 1, cells := LC - H0.size, slots := LS - jTot H0, locals := 31 }) (va_Pc [.ref r0, .ref r1, .ref r2, .ref r3, .null] (fun U => U.heap = H0 ∧ jX B base G0 [] H0 ∧ jG dC dI ca base U ∧ G0 r1 = some (101, n1) ∧ G0 r2 = some (101, n2) ∧ G0 r3 = some (313, n3) ∧ va_at (dC, dI) vwCl (r0, .inr (5, [.null, .null, .null, .null])) H0 ∧ (∀ t, G0 r0 ≠ some t) ∧ base ≤ r0 ∧ jP (dC, dI) G0 H0 [] ∧ H0.size + 0 ≤ LC ∧ jTot H0 + 0 ≤ LS ∧ n3 = n2 ∧ n1 ≤ 7 ∧ n2 ≤ 9 ∧ kn / 10 = n2 ∧ kn % 10 = 0)) (va_Qv (S := jT) (fun u => True) (fun u t => jRa (dC, dI) B base G0 u EX3_initZ H0 (0) (0) [] t.heap ∧ (jNk [0, 1, 2, 3, 4, 6, 7, 8, 9, 10, 11, 12, 13, 14, 15, 16]) G0 u ∧ u r0 = some (5, kn) ∧ jKx r0 G0 u H0 t.heap) (jA base)) (LC - H0.size) (LS - jTot H0) (jA base) := by
  refine Met.ofW (cc := cX3_init) (maxL := 5) (ret := none) (by decide) rfl ?_
  intro p e s m args below meth c s₁ Bd hml hv
  obtain ⟨rfl, hH0, hX, hG, hg_r1, hg_r2, hg_r3, hraw0, hnr0, hbr0, hP0, hLC0, hLS0, hp0, hp1, hp2, hp3, hp4⟩ := hv
  have hK := hG.1
  have hx := Bd.exec
  have hb := Bd.bytes
  have hr := Bd.returns
  have hts := atoms_spec (ws := (jw yX3_init cX3_init 5 none)) Bd.pre
  have htw : ∀ w ∈ jWl, w.before _ s = true := fun w h => hts w (List.mem_cons_of_mem _ h)
  have hown : s.vm.findClass RX3 = some m.cls := findClass_of_methodNamed Bd.named
  have hlocks := Bd.notSynchronized
  obtain ⟨Q, hQ⟩ : ∃ Q, Q = MQ below (va_Qv (S := jT) (fun u => True) (fun u t => jRa (dC, dI) B base G0 u EX3_initZ H0 (0) (0) [] t.heap ∧ (jNk [0, 1, 2, 3, 4, 6, 7, 8, 9, 10, 11, 12, 13, 14, 15, 16]) G0 u ∧ u r0 = some (5, kn) ∧ jKx r0 G0 u H0 t.heap) (jA base)) ([.ref r0, .ref r1, .ref r2, .ref r3, .null] : List Value).toArray s (LC - H0.size) (LS - jTot H0) (jA base) := ⟨_, rfl⟩
  rw [← hQ]
  have hl := lv_entry ([.ref r0, .ref r1, .ref r2, .ref r3, .null]) (n := 5) (Nat.le_of_ble_eq_true rfl)
  rw [lg_entry_eq]
  generalize (lg_sl ([.ref r0, .ref r1, .ref r2, .ref r3, .null]) ++ List.replicate (5 - (lg_sl ([.ref r0, .ref r1, .ref r2, .ref r3, .null])).length) Slot.unset).toArray = ls at hl ⊢
  have hl : lv_has ls 5 [(0, .ref r0), (1, .ref r1), (2, .ref r2), (3, .ref r3), (4, .null)] := hl
  generalize hR : (headSpec (jw yX3_init cX3_init 5 none) ({ frames := 1, cells := LC - H0.size, slots := LS - jTot H0, locals := 31 })).room = R
  subst hH0
  have hh : jSt (dC, dI) B base G0 G0 EX3_initZ s.heap 0 0 [] [] [] s.heap [] := jSt.start hX hP0 jMc.nil jIs.nil
  clear hX hP0
  have hk0 : (0 : Int32).toInt = 0 := by decide
  have hk1 : (1 : Int32).toInt = 1 := by decide
  have hly_5_0 := htw (u_lay RX3 TX3 0) (jWc_wsX30 _ (u_in_lay (by decide)))
  have hly_5_1 := htw (u_lay RX3 TX3 1) (jWc_wsX30 _ (u_in_lay (by decide)))
  have hly_5_2 := htw (u_lay RX3 TX3 2) (jWc_wsX30 _ (u_in_lay (by decide)))
  have hly_5_3 := htw (u_lay RX3 TX3 3) (jWc_wsX30 _ (u_in_lay (by decide)))
  have hlk_9 := (htw (.fieldLink RX3 9 "ProofServer$Goal" "variables" "[I") (jWr_83 _ (List.mem_of_getElem? (i := 10) rfl)))
  have hlk_15 := (htw (.fieldLink RX3 15 "ProofServer$Goal" "names" "[I") (jWr_83 _ (List.mem_of_getElem? (i := 11) rfl)))
  have hlk_18 := (htw (.fieldLink RX3 18 "ProofServer$Goal" "hypotheses" "[[I") (jWr_83 _ (List.mem_of_getElem? (i := 12) rfl)))
  have hlk_22 := (htw (.fieldLink RX3 22 "ProofServer$Goal" "formula" "[I") (jWr_83 _ (List.mem_of_getElem? (i := 13) rfl)))
  have hbs : base ≤ s.heap.size := Nat.le_of_lt (Nat.lt_of_le_of_lt hbr0 hraw0.lt)
  have hRc : R.cells = LC - s.heap.size := by rw [← hR]; rfl
  have hRs : R.slots = LS - jTot s.heap := by rw [← hR]; rfl
  have hin2 : meth.name = "<init>" := (name_of_methodNamed Bd.named Bd.method).1
  have hkp : jKx r0 G0 G0 s.heap s.heap := jKx.rf
  refine lv_aload_n hx hb dX3_init_0 rfl (lv_at hl 0 rfl) ?_
  refine W.objInit hx hb hown (htw (.methodLink RX3 3 objectInit) (jWr_83 _ (List.mem_of_getElem? (i := 9) rfl))) (htw (.instanceMethod objectInit) (jWr_1 _ (List.mem_of_getElem? (i := 10) rfl))) (htw (.code objectInit ⟨#[0xb1]⟩ 1 none) (jWr_1 _ (List.mem_of_getElem? (i := 11) rfl))) rfl (by rw [hml]; exact hl.1) rfl dX3_init_1 (by rw [← hR]; exact Nat.le_of_ble_eq_true rfl) (by rw [← hR]; exact Nat.le_of_ble_eq_true rfl) ?_
  refine W.eq (g2 := F0 m 4 ls []) rfl ?_
  refine lv_aload_n hx hb dX3_init_4 rfl (lv_at hl 0 rfl) ?_
  refine lv_aload_n hx hb dX3_init_5 rfl (lv_at hl 1 rfl) ?_
  refine j7_putRF hx hb hown hK hh hB hAp hraw0 hnr0 hbr0 (C := RX3) (T := TX3) (N := 4) rfl (i := 0) (by decide) (Nat.le_of_ble_eq_true rfl) hly_5_0 rfl hin2 rfl hlk_9 (ty := (.array .int)) (v := .ref r1) (by decide +kernel) rfl rfl dX3_init_6 (fun H_1 locs_1 hraw_1 hr_1 hh_1 => ?_)
  have hraw_1 : va_at (dC, dI) vwCl (r0, .inr (5, [.ref r1, .null, .null, .null])) H_1 := hraw_1
  have hkp_2 := hkp.put hr_1
  clear hh
  refine lv_aload_n hx hb dX3_init_9 rfl (lv_at hl 0 rfl) ?_
  refine lv_aload_n hx hb dX3_init_10 rfl (lv_at hl 2 rfl) ?_
  refine j7_putRF hx hb hown hK hh_1 hB hAp hraw_1 hnr0 hbr0 (C := RX3) (T := TX3) (N := 4) rfl (i := 1) (by decide) (Nat.le_of_ble_eq_true rfl) hly_5_1 rfl hin2 rfl hlk_15 (ty := (.array .int)) (v := .ref r2) (by decide +kernel) rfl rfl dX3_init_11 (fun H_3 locs_3 hraw_3 hr_3 hh_3 => ?_)
  have hraw_3 : va_at (dC, dI) vwCl (r0, .inr (5, [.ref r1, .ref r2, .null, .null])) H_3 := hraw_3
  have hkp_4 := hkp_2.put hr_3
  clear hh_1
  refine lv_aload_n hx hb dX3_init_14 rfl (lv_at hl 0 rfl) ?_
  refine lv_aload_n hx hb dX3_init_15 rfl (lv_at hl 3 rfl) ?_
  refine j7_putRF hx hb hown hK hh_3 hB hAp hraw_3 hnr0 hbr0 (C := RX3) (T := TX3) (N := 4) rfl (i := 2) (by decide) (Nat.le_of_ble_eq_true rfl) hly_5_2 rfl hin2 rfl hlk_18 (ty := (.array (.array .int))) (v := .ref r3) (by decide +kernel) rfl rfl dX3_init_16 (fun H_5 locs_5 hraw_5 hr_5 hh_5 => ?_)
  have hraw_5 : va_at (dC, dI) vwCl (r0, .inr (5, [.ref r1, .ref r2, .ref r3, .null])) H_5 := hraw_5
  have hkp_6 := hkp_4.put hr_5
  clear hh_3
  refine lv_aload_n hx hb dX3_init_19 rfl (lv_at hl 0 rfl) ?_
  refine j7_nld hx hb dX3_init_20 (lv_at hl 4 rfl) ?_
  refine j7_putRF hx hb hown hK hh_5 hB hAp hraw_5 hnr0 hbr0 (C := RX3) (T := TX3) (N := 4) rfl (i := 3) (by decide) (Nat.le_of_ble_eq_true rfl) hly_5_3 rfl hin2 rfl hlk_22 (ty := (.array .int)) (v := .null) (by decide +kernel) rfl rfl dX3_init_22 (fun H_7 locs_7 hraw_7 hr_7 hh_7 => ?_)
  have hraw_7 : va_at (dC, dI) vwCl (r0, .inr (5, [.ref r1, .ref r2, .ref r3, .null])) H_7 := hraw_7
  have hkp_8 := hkp_6.put hr_7
  clear hh_5
  have hsz_9 := hh_7.2.2.2.2.2.1
  have htt_9 := hh_7.2.2.2.2.2.2.1
  refine W.room (fun hrc_9 hrs_9 => ?_)
  refine W.widen (k := LC - s.heap.size) (n := LS - jTot s.heap) (by omega) (by omega) ?_
  rw [hQ]
  have hle_10 : jLe G0 (va_up G0 r0 (some (5, kn))) := jLe.typ hnr0
  have hg_11 := hle_10 _ _ hg_r1
  have hg_12 := hle_10 _ _ hg_r2
  have hg_13 := hle_10 _ _ hg_r3
  have hg_14 := (jLe.rf).tr hle_10 _ _ hg_r1
  have hg_15 := (jLe.rf).tr hle_10 _ _ hg_r2
  have hg_16 := (jLe.rf).tr hle_10 _ _ hg_r3
  have hfa_10 : jGv kn (va_up G0 r0 (some (5, kn))) (.ref r1) ∧ jGn kn (va_up G0 r0 (some (5, kn))) (.ref r2) ∧ jGh kn (va_up G0 r0 (some (5, kn))) (.ref r3) ∧ jGfo kn (va_up G0 r0 (some (5, kn))) (.null) ∧ True := ⟨⟨_, _, rfl, hg_14, by omega, by omega, by omega⟩, ⟨_, rfl, jSz hg_15 (by omega)⟩, ⟨_, 313, rfl, jSz hg_16 (by omega), by omega, by omega, by omega, by omega, by omega⟩, Or.inl ⟨rfl, by omega⟩, trivial⟩
  have hh_10 := hh_7.typ (k := 5) (n := kn) hB hnr0 hbr0 hraw_7.lt (jOb.of (C := RX3) (T := TX3) (N := 4) (F := F5) hB5 rfl hraw_7 (show jFx (F5 kn (va_up G0 r0 (some (5, kn)))) [.ref r1, .ref r2, .ref r3, .null] from hfa_10))
  have hgn_10 : (va_up G0 r0 (some (5, kn))) r0 = some (5, kn) := jUp_self
  have hN_10 : (jNk [0, 1, 2, 3, 4, 6, 7, 8, 9, 10, 11, 12, 13, 14, 15, 16]) G0 (va_up G0 r0 (some (5, kn))) := jNk.new (by decide)
  have hNn_10 : (jNk [0, 1, 2, 3, 4, 6, 7, 8, 9, 10, 11, 12, 13, 14, 15, 16]) G0 (va_up G0 r0 (some (5, kn))) := (jNk.rf).tr hN_10
  have hkp_17 := hkp_8.typ (t := some (5, kn))
  exact W.vret hx hb hr (fun t ht hW => ⟨⟨(va_up G0 r0 (some (5, kn))), rfl, trivial, ⟨hh_10.ra (by first | omega | (simp only; omega)) (by first | omega | (simp only; omega)) (M1 := []) [] rfl ht, hNn_10, hgn_10, by rw [ht]; exact hkp_17⟩⟩, by rw [ht]; try exact hh_10.1.1, fun q h9 hq => by rw [ht]; try exact hh_10.1.2.1 q h9 hq⟩) hh_10.1.2.2 dX3_init_25
set_option maxHeartbeats 4000000 in
set_option maxRecDepth 20000 in
theorem uX3_withFormula (l : Launch) (dC : Nat → ClassId) (dI : Nat → Nat → Nat) (ca : Nat → ClassId) (base : Nat) (B : jF) (hB : jBok B) (hAp : jAp (dC, dI)) (hB5 : ∀ n G a H, B 5 n G a H ↔ jOb (dC, dI) 5 4 (F5 n G) a H) (hB101 : ∀ n G a H, B 101 n G a H ↔ jAr (dC, dI) (ca 1) (fun j z => True) n a H) (hB280 : ∀ n G a H, B 280 n G a H ↔ jAr (dC, dI) (ca 1) (fun j z => -1 ≤ z.toInt) n a H) (hB313 : ∀ n G a H, B 313 n G a H ↔ jAq (dC, dI) (ca 8) (jQk 280 80) n G a H) (G0 : jT) (H0 : Heap) (r0 : Nat) (r1 : Nat) (n0 : Nat) (n1 : Nat) (LC LS : Nat) : Met l yX3_withFormula (jw yX3_withFormula cX3_withFormula 2 (some (.object "ProofServer$Goal"))) ({ frames := 2, cells := LC - H0.size, slots := LS - jTot H0, locals := 55 }) (va_Pc [.ref r0, .ref r1] (fun U => U.heap = H0 ∧ jX B base G0 [] H0 ∧ jG dC dI ca base U ∧ G0 r0 = some (5, n0) ∧ G0 r1 = some (280, n1) ∧ jP (dC, dI) G0 H0 [] ∧ H0.size + 1 ≤ LC ∧ jTot H0 + 4 ≤ LS ∧ (n0 % 10 = 1 ∨ n0 % 10 = 2 ∨ n0 % 10 = 3) ∧ n1 ≤ 80)) (jQx (S := Nat × jT) (fun v u => jRf u.2 5 u.1 v ∧ jNwv v H0 ∧ u.1 = n0) (fun u t => jRa (dC, dI) B base G0 u.2 EX3_withFormula H0 (1) (4) [] t.heap ∧ (jNk [0, 1, 2, 3, 4, 6, 7, 8, 9, 10, 11, 12, 13, 14, 15, 16]) G0 u.2) (jA base)) (LC - H0.size) (LS - jTot H0) (jA base) := by
  refine Met.ofW (cc := cX3_withFormula) (maxL := 2) (ret := (some (.object "ProofServer$Goal"))) (by decide) rfl ?_
  intro p e s m args below meth c s₁ Bd hml hv
  obtain ⟨rfl, hH0, hX, hG, hg_r0, hg_r1, hP0, hLC0, hLS0, hp0, hp1⟩ := hv
  have hK := hG.1
  have hx := Bd.exec
  have hb := Bd.bytes
  have hr := Bd.returns
  have hts := atoms_spec (ws := (jw yX3_withFormula cX3_withFormula 2 (some (.object "ProofServer$Goal")))) Bd.pre
  have htw : ∀ w ∈ jWl, w.before _ s = true := fun w h => hts w (List.mem_cons_of_mem _ h)
  have hown : s.vm.findClass RX3 = some m.cls := findClass_of_methodNamed Bd.named
  have hlocks := Bd.notSynchronized
  obtain ⟨Q, hQ⟩ : ∃ Q, Q = MQ below (jQx (S := Nat × jT) (fun v u => jRf u.2 5 u.1 v ∧ jNwv v H0 ∧ u.1 = n0) (fun u t => jRa (dC, dI) B base G0 u.2 EX3_withFormula H0 (1) (4) [] t.heap ∧ (jNk [0, 1, 2, 3, 4, 6, 7, 8, 9, 10, 11, 12, 13, 14, 15, 16]) G0 u.2) (jA base)) ([.ref r0, .ref r1] : List Value).toArray s (LC - H0.size) (LS - jTot H0) (jA base) := ⟨_, rfl⟩
  rw [← hQ]
  have hl := lv_entry ([.ref r0, .ref r1]) (n := 2) (Nat.le_of_ble_eq_true rfl)
  rw [lg_entry_eq]
  generalize (lg_sl ([.ref r0, .ref r1]) ++ List.replicate (2 - (lg_sl ([.ref r0, .ref r1])).length) Slot.unset).toArray = ls at hl ⊢
  have hl : lv_has ls 2 [(0, .ref r0), (1, .ref r1)] := hl
  generalize hR : (headSpec (jw yX3_withFormula cX3_withFormula 2 (some (.object "ProofServer$Goal"))) ({ frames := 2, cells := LC - H0.size, slots := LS - jTot H0, locals := 55 })).room = R
  subst hH0
  have hh : jSt (dC, dI) B base G0 G0 EX3_withFormula s.heap 0 0 [] [] [] s.heap [] := jSt.start hX hP0 jMc.nil jIs.nil
  clear hX hP0
  have hk0 : (0 : Int32).toInt = 0 := by decide
  have hk1 : (1 : Int32).toInt = 1 := by decide
  have hly_5_0 := htw (u_lay RX3 TX3 0) (jWc_wsX30 _ (u_in_lay (by decide)))
  have hly_5_1 := htw (u_lay RX3 TX3 1) (jWc_wsX30 _ (u_in_lay (by decide)))
  have hly_5_2 := htw (u_lay RX3 TX3 2) (jWc_wsX30 _ (u_in_lay (by decide)))
  have hlk_9 := (htw (.fieldLink RX3 9 "ProofServer$Goal" "variables" "[I") (jWr_83 _ (List.mem_of_getElem? (i := 10) rfl)))
  have hlk_15 := (htw (.fieldLink RX3 15 "ProofServer$Goal" "names" "[I") (jWr_83 _ (List.mem_of_getElem? (i := 11) rfl)))
  have hlk_18 := (htw (.fieldLink RX3 18 "ProofServer$Goal" "hypotheses" "[[I") (jWr_83 _ (List.mem_of_getElem? (i := 12) rfl)))
  have hbs : base ≤ s.heap.size := Nat.le_of_lt (Nat.lt_of_le_of_lt (hh.ab hg_r0).1 (hh.ab hg_r0).2)
  have hRc : R.cells = LC - s.heap.size := by rw [← hR]; rfl
  have hRs : R.slots = LS - jTot s.heap := by rw [← hR]; rfl
  have hsz_1 := hh.2.2.2.2.2.1
  have htt_1 := hh.2.2.2.2.2.2.1
  refine j7_newo (k := 5) (C := RX3) (T := TX3) (N := 4) (fs := [.null, .null, .null, .null]) hx hb htw jWc_wsX30 (fun k => ([(.array .int), (.array .int), (.array (.array .int)), (.array .int)] : List FieldType).getD k .int) (by decide +kernel) hown (htw (.classLink RX3 10 RX3) (jWr_85 _ (List.mem_of_getElem? (i := 4) rfl))) (htw (.instantiable RX3 4) (jWr_82 _ (List.mem_of_getElem? (i := 9) rfl))) (htw (.initialized RX3) (jWr_82 _ (List.mem_of_getElem? (i := 10) rfl))) hK rfl (fun j hj => by rcases (by omega : j = 0 ∨ j = 1 ∨ j = 2 ∨ j = 3) with rfl | rfl | rfl | rfl <;> rfl) hh hB (by rw [hRc]; omega) (by rw [hRs]; omega) dX3_withFormula_0 (fun H_1 hraw_1 hfr_1 hnr_1 hh_1 => ?_)
  have hke_1 : jKe G0 G0 s.heap H_1 := jKe.raw hfr_1
  have hbr_1 : base ≤ s.heap.size := Nat.le_trans hbs hh.1.1
  have hsy_1 : s.heap.size ≤ s.heap.size := hh.1.1
  clear hh
  refine lv_dup hx hb dX3_withFormula_3 rfl ?_
  refine lv_aload_n hx hb dX3_withFormula_4 rfl (lv_at hl 0 rfl) ?_
  obtain ⟨v_2, hv_2, hh_3⟩ := hh_1.pin (C := RX3) (T := TX3) (N := 4) hB5 rfl (by decide) hg_r0 (i := 0) (by decide) rfl
  clear hh_1
  obtain ⟨variables_4, nvariables_4, rfl, hg_variables_4, hvavariables_4, hvbvariables_4, hvcvariables_4⟩ := hv_2
  refine j7_read hx hb hown hK (C := RX3) (T := TX3) (N := 4) rfl hly_5_0 hlk_9 (hh_3.at 0 rfl) dX3_withFormula_5 ?_
  refine lv_aload_n hx hb dX3_withFormula_8 rfl (lv_at hl 0 rfl) ?_
  obtain ⟨v_5, hv_5, hh_6⟩ := hh_3.pin (C := RX3) (T := TX3) (N := 4) hB5 rfl (by decide) hg_r0 (i := 1) (by decide) rfl
  clear hh_3
  obtain ⟨names_7, rfl, hg_names_7⟩ := hv_5
  refine j7_read hx hb hown hK (C := RX3) (T := TX3) (N := 4) rfl hly_5_1 hlk_15 (hh_6.at 0 rfl) dX3_withFormula_9 ?_
  refine lv_aload_n hx hb dX3_withFormula_12 rfl (lv_at hl 0 rfl) ?_
  obtain ⟨v_8, hv_8, hh_9⟩ := hh_6.pin (C := RX3) (T := TX3) (N := 4) hB5 rfl (by decide) hg_r0 (i := 2) (by decide) rfl
  clear hh_6
  obtain ⟨hypotheses_10, khypotheses_10, rfl, hg_hypotheses_10, hhahypotheses_10, hhbhypotheses_10, hhchypotheses_10, hhdhypotheses_10, hhehypotheses_10⟩ := hv_8
  obtain rfl : khypotheses_10 = 313 := hhbhypotheses_10 (by omega)
  refine j7_read hx hb hown hK (C := RX3) (T := TX3) (N := 4) rfl hly_5_2 hlk_18 (hh_9.at 0 rfl) dX3_withFormula_13 ?_
  refine lv_aload_n hx hb dX3_withFormula_16 rfl (lv_at hl 1 rfl) ?_
  have hsz_11 := hh_9.2.2.2.2.2.1
  have htt_11 := hh_9.2.2.2.2.2.2.1
  refine W.room (fun hrc_11 hrs_11 => ?_)
  refine va_callv (A0 := jA base) (H0 := s.heap) (va_runI (As := [.ref variables_4, .ref names_7, .ref hypotheses_10, .ref r1]) (rest := [.ref s.heap.size]) ⟨hx, hb, hml, hown, hts⟩ (uX3_init l dC dI ca base B hB hAp hB5 hB101 hB280 hB313 G0 H_1 s.heap.size variables_4 names_7 hypotheses_10 r1 nvariables_4 (n0 / 10) (n0 / 10) n1 n0 LC LS) (cwI 4 hts (jgW (jWr_83 _ (List.mem_of_getElem? (i := 8) rfl))) rfl rfl rfl (htw (.initialized RX3) (jWr_82 _ (List.mem_of_getElem? (i := 10) rfl))) (htw (.methodLink RX3 25 yX3_init) (jWr_85 _ (List.mem_of_getElem? (i := 7) rfl))) (htw (.instanceMethod yX3_init) (jWr_83 _ (List.mem_of_getElem? (i := 7) rfl))) rfl (by decide +kernel) ⟨by rw [← hR]; exact Nat.le_of_ble_eq_true rfl, by rw [← hR]; exact Nat.le_of_ble_eq_true rfl⟩) ⟨fun a U g mk q => by obtain ⟨q0, q1, q2, qK, q10, q11, q12, q13, q14, q15, q16, q17, q18⟩ := q; exact ⟨q0, q1, q2, jG.calling g mk a qK, q10, q11, q12, q13, q14, q15, q16, q17, q18⟩, fun U hU hW => ⟨rfl, hU, hh_9.2.1, hG.step hW hU hh_9.1, hg_variables_4, hg_names_7, hg_hypotheses_10, hg_r1, hraw_1, hnr_1, hbr_1, jP.nil, (by omega), (by omega), by first | omega | (refine ⟨?_, ?_, ?_, ?_, ?_, ?_⟩ <;> (first | omega | rfl | assumption | decide | exact Or.inl rfl | exact Or.inr rfl | (simp only; omega)))⟩⟩ rfl rfl hl.1 rfl (lv_room (Nat.le_of_ble_eq_true rfl)) dX3_withFormula_17 ⟨by rw [hRc]; omega, by rw [hRs]; omega⟩) hh_9.1 (fun q _ h => h) (fun q h => h) (fun u_11 t_11 H_11 locs_11 ht_11 hvm_11 hr_12 hb_11 hz_11 hk_11 hS_11 => ?_)
  rw [ht_11] at hb_11
  obtain ⟨G_11, rfl⟩ : ∃ z, z = u_11 := ⟨_, rfl⟩
  try simp only at hb_11
  obtain ⟨⟨hb_111, hb_112, hb_113, hb_114, hb_115, hb_116⟩, hN_11, hgc_11, hbX_11⟩ := hb_11
  have hh_11 : jSt (dC, dI) B base G0 G_11 EX3_withFormula s.heap ((0 + 1) + (0)) ((0 + 4) + (0)) [(r0, 5, 2, .ref hypotheses_10), (r0, 5, 1, .ref names_7), (r0, 5, 0, .ref variables_4)] [] [] H_11 locs_11 := (hh_9.callG hb_111 hb_112 hb_113 hb_114 hb_115 hS_11 rfl (L1 := [(r0, 5, 2, .ref hypotheses_10), (r0, 5, 1, .ref names_7), (r0, 5, 0, .ref variables_4)]) [0, 1, 2] rfl rfl (M1 := []) [] rfl rfl (I1 := []) [] rfl rfl).more hb_116
  have hNn_11 : (jNk [0, 1, 2, 3, 4, 6, 7, 8, 9, 10, 11, 12, 13, 14, 15, 16]) G0 G_11 := (jNk.rf).tr hN_11
  have hg_13 := hb_112 _ _ hg_r0
  have hg_14 := hb_112 _ _ hg_r1
  have hg_15 := hb_112 _ _ hg_hypotheses_10
  have hg_16 := hb_112 _ _ hg_names_7
  have hg_17 := hb_112 _ _ hg_variables_4
  try simp only at hr_12
  have hsz_18 := hh_11.2.2.2.2.2.1
  have htt_18 := hh_11.2.2.2.2.2.2.1
  refine W.room (fun hrc_18 hrs_18 => ?_)
  refine W.widen (k := LC - s.heap.size) (n := LS - jTot s.heap) (by omega) (by omega) ?_
  rw [hQ]
  exact W.aret (v := .ref s.heap.size) hx hb hr (Or.inl ⟨_, rfl⟩) (Or.inr ⟨_, rfl⟩) (fun t ht hW => ⟨⟨.ref s.heap.size, (n0, G_11), rfl, ⟨⟨_, rfl, hgc_11⟩, ⟨_, rfl, hsy_1⟩, by first | rfl | ((try dsimp only); first | omega | rfl | assumption | fail)⟩, ⟨hh_11.ra (by first | omega | (simp only; omega)) (by first | omega | (simp only; omega)) (M1 := []) [] rfl ht, hNn_11⟩⟩, by rw [ht]; try exact hh_11.1.1, fun q h9 hq => by rw [ht]; try exact hh_11.1.2.1 q h9 hq⟩) hh_11.1.2.2 dX3_withFormula_20
set_option maxHeartbeats 4000000 in
set_option maxRecDepth 20000 in
theorem uX3_withFormulaZ (l : Launch) (dC : Nat → ClassId) (dI : Nat → Nat → Nat) (ca : Nat → ClassId) (base : Nat) (B : jF) (hB : jBok B) (hAp : jAp (dC, dI)) (hB5 : ∀ n G a H, B 5 n G a H ↔ jOb (dC, dI) 5 4 (F5 n G) a H) (hB101 : ∀ n G a H, B 101 n G a H ↔ jAr (dC, dI) (ca 1) (fun j z => True) n a H) (hB280 : ∀ n G a H, B 280 n G a H ↔ jAr (dC, dI) (ca 1) (fun j z => -1 ≤ z.toInt) n a H) (hB313 : ∀ n G a H, B 313 n G a H ↔ jAq (dC, dI) (ca 8) (jQk 280 80) n G a H) (G0 : jT) (H0 : Heap) (r0 : Nat) (n0 : Nat) (LC LS : Nat) : Met l yX3_withFormula (jw yX3_withFormula cX3_withFormula 2 (some (.object "ProofServer$Goal"))) ({ frames := 2, cells := LC - H0.size, slots := LS - jTot H0, locals := 55 }) (va_Pc [.ref r0, .null] (fun U => U.heap = H0 ∧ jX B base G0 [] H0 ∧ jG dC dI ca base U ∧ G0 r0 = some (5, n0) ∧ jP (dC, dI) G0 H0 [] ∧ H0.size + 1 ≤ LC ∧ jTot H0 + 4 ≤ LS ∧ (n0 % 10 = 1 ∨ n0 % 10 = 2 ∨ n0 % 10 = 3))) (jQx (S := Nat × jT) (fun v u => jRf u.2 5 u.1 v ∧ jNwv v H0 ∧ u.1 = 10 * (n0 / 10)) (fun u t => jRa (dC, dI) B base G0 u.2 EX3_withFormulaZ H0 (1) (4) [] t.heap ∧ (jNk [0, 1, 2, 3, 4, 6, 7, 8, 9, 10, 11, 12, 13, 14, 15, 16]) G0 u.2) (jA base)) (LC - H0.size) (LS - jTot H0) (jA base) := by
  refine Met.ofW (cc := cX3_withFormula) (maxL := 2) (ret := (some (.object "ProofServer$Goal"))) (by decide) rfl ?_
  intro p e s m args below meth c s₁ Bd hml hv
  obtain ⟨rfl, hH0, hX, hG, hg_r0, hP0, hLC0, hLS0, hp0⟩ := hv
  have hK := hG.1
  have hx := Bd.exec
  have hb := Bd.bytes
  have hr := Bd.returns
  have hts := atoms_spec (ws := (jw yX3_withFormula cX3_withFormula 2 (some (.object "ProofServer$Goal")))) Bd.pre
  have htw : ∀ w ∈ jWl, w.before _ s = true := fun w h => hts w (List.mem_cons_of_mem _ h)
  have hown : s.vm.findClass RX3 = some m.cls := findClass_of_methodNamed Bd.named
  have hlocks := Bd.notSynchronized
  obtain ⟨Q, hQ⟩ : ∃ Q, Q = MQ below (jQx (S := Nat × jT) (fun v u => jRf u.2 5 u.1 v ∧ jNwv v H0 ∧ u.1 = 10 * (n0 / 10)) (fun u t => jRa (dC, dI) B base G0 u.2 EX3_withFormulaZ H0 (1) (4) [] t.heap ∧ (jNk [0, 1, 2, 3, 4, 6, 7, 8, 9, 10, 11, 12, 13, 14, 15, 16]) G0 u.2) (jA base)) ([.ref r0, .null] : List Value).toArray s (LC - H0.size) (LS - jTot H0) (jA base) := ⟨_, rfl⟩
  rw [← hQ]
  have hl := lv_entry ([.ref r0, .null]) (n := 2) (Nat.le_of_ble_eq_true rfl)
  rw [lg_entry_eq]
  generalize (lg_sl ([.ref r0, .null]) ++ List.replicate (2 - (lg_sl ([.ref r0, .null])).length) Slot.unset).toArray = ls at hl ⊢
  have hl : lv_has ls 2 [(0, .ref r0), (1, .null)] := hl
  generalize hR : (headSpec (jw yX3_withFormula cX3_withFormula 2 (some (.object "ProofServer$Goal"))) ({ frames := 2, cells := LC - H0.size, slots := LS - jTot H0, locals := 55 })).room = R
  subst hH0
  have hh : jSt (dC, dI) B base G0 G0 EX3_withFormulaZ s.heap 0 0 [] [] [] s.heap [] := jSt.start hX hP0 jMc.nil jIs.nil
  clear hX hP0
  have hk0 : (0 : Int32).toInt = 0 := by decide
  have hk1 : (1 : Int32).toInt = 1 := by decide
  have hly_5_0 := htw (u_lay RX3 TX3 0) (jWc_wsX30 _ (u_in_lay (by decide)))
  have hly_5_1 := htw (u_lay RX3 TX3 1) (jWc_wsX30 _ (u_in_lay (by decide)))
  have hly_5_2 := htw (u_lay RX3 TX3 2) (jWc_wsX30 _ (u_in_lay (by decide)))
  have hlk_9 := (htw (.fieldLink RX3 9 "ProofServer$Goal" "variables" "[I") (jWr_83 _ (List.mem_of_getElem? (i := 10) rfl)))
  have hlk_15 := (htw (.fieldLink RX3 15 "ProofServer$Goal" "names" "[I") (jWr_83 _ (List.mem_of_getElem? (i := 11) rfl)))
  have hlk_18 := (htw (.fieldLink RX3 18 "ProofServer$Goal" "hypotheses" "[[I") (jWr_83 _ (List.mem_of_getElem? (i := 12) rfl)))
  have hbs : base ≤ s.heap.size := Nat.le_of_lt (Nat.lt_of_le_of_lt (hh.ab hg_r0).1 (hh.ab hg_r0).2)
  have hRc : R.cells = LC - s.heap.size := by rw [← hR]; rfl
  have hRs : R.slots = LS - jTot s.heap := by rw [← hR]; rfl
  have hsz_1 := hh.2.2.2.2.2.1
  have htt_1 := hh.2.2.2.2.2.2.1
  refine j7_newo (k := 5) (C := RX3) (T := TX3) (N := 4) (fs := [.null, .null, .null, .null]) hx hb htw jWc_wsX30 (fun k => ([(.array .int), (.array .int), (.array (.array .int)), (.array .int)] : List FieldType).getD k .int) (by decide +kernel) hown (htw (.classLink RX3 10 RX3) (jWr_85 _ (List.mem_of_getElem? (i := 4) rfl))) (htw (.instantiable RX3 4) (jWr_82 _ (List.mem_of_getElem? (i := 9) rfl))) (htw (.initialized RX3) (jWr_82 _ (List.mem_of_getElem? (i := 10) rfl))) hK rfl (fun j hj => by rcases (by omega : j = 0 ∨ j = 1 ∨ j = 2 ∨ j = 3) with rfl | rfl | rfl | rfl <;> rfl) hh hB (by rw [hRc]; omega) (by rw [hRs]; omega) dX3_withFormula_0 (fun H_1 hraw_1 hfr_1 hnr_1 hh_1 => ?_)
  have hke_1 : jKe G0 G0 s.heap H_1 := jKe.raw hfr_1
  have hbr_1 : base ≤ s.heap.size := Nat.le_trans hbs hh.1.1
  have hsy_1 : s.heap.size ≤ s.heap.size := hh.1.1
  clear hh
  refine lv_dup hx hb dX3_withFormula_3 rfl ?_
  refine lv_aload_n hx hb dX3_withFormula_4 rfl (lv_at hl 0 rfl) ?_
  obtain ⟨v_2, hv_2, hh_3⟩ := hh_1.pin (C := RX3) (T := TX3) (N := 4) hB5 rfl (by decide) hg_r0 (i := 0) (by decide) rfl
  clear hh_1
  obtain ⟨variables_4, nvariables_4, rfl, hg_variables_4, hvavariables_4, hvbvariables_4, hvcvariables_4⟩ := hv_2
  refine j7_read hx hb hown hK (C := RX3) (T := TX3) (N := 4) rfl hly_5_0 hlk_9 (hh_3.at 0 rfl) dX3_withFormula_5 ?_
  refine lv_aload_n hx hb dX3_withFormula_8 rfl (lv_at hl 0 rfl) ?_
  obtain ⟨v_5, hv_5, hh_6⟩ := hh_3.pin (C := RX3) (T := TX3) (N := 4) hB5 rfl (by decide) hg_r0 (i := 1) (by decide) rfl
  clear hh_3
  obtain ⟨names_7, rfl, hg_names_7⟩ := hv_5
  refine j7_read hx hb hown hK (C := RX3) (T := TX3) (N := 4) rfl hly_5_1 hlk_15 (hh_6.at 0 rfl) dX3_withFormula_9 ?_
  refine lv_aload_n hx hb dX3_withFormula_12 rfl (lv_at hl 0 rfl) ?_
  obtain ⟨v_8, hv_8, hh_9⟩ := hh_6.pin (C := RX3) (T := TX3) (N := 4) hB5 rfl (by decide) hg_r0 (i := 2) (by decide) rfl
  clear hh_6
  obtain ⟨hypotheses_10, khypotheses_10, rfl, hg_hypotheses_10, hhahypotheses_10, hhbhypotheses_10, hhchypotheses_10, hhdhypotheses_10, hhehypotheses_10⟩ := hv_8
  obtain rfl : khypotheses_10 = 313 := hhbhypotheses_10 (by omega)
  refine j7_read hx hb hown hK (C := RX3) (T := TX3) (N := 4) rfl hly_5_2 hlk_18 (hh_9.at 0 rfl) dX3_withFormula_13 ?_
  refine j7_nld_n hx hb dX3_withFormula_16 rfl (lv_at hl 1 rfl) ?_
  have hsz_11 := hh_9.2.2.2.2.2.1
  have htt_11 := hh_9.2.2.2.2.2.2.1
  refine W.room (fun hrc_11 hrs_11 => ?_)
  refine va_callv (A0 := jA base) (H0 := s.heap) (va_runI (As := [.ref variables_4, .ref names_7, .ref hypotheses_10, .null]) (rest := [.ref s.heap.size]) ⟨hx, hb, hml, hown, hts⟩ (uX3_initZ l dC dI ca base B hB hAp hB5 hB101 hB280 hB313 G0 H_1 s.heap.size variables_4 names_7 hypotheses_10 nvariables_4 (n0 / 10) (n0 / 10) (10 * (n0 / 10)) LC LS) (cwI 4 hts (jgW (jWr_83 _ (List.mem_of_getElem? (i := 8) rfl))) rfl rfl rfl (htw (.initialized RX3) (jWr_82 _ (List.mem_of_getElem? (i := 10) rfl))) (htw (.methodLink RX3 25 yX3_init) (jWr_85 _ (List.mem_of_getElem? (i := 7) rfl))) (htw (.instanceMethod yX3_init) (jWr_83 _ (List.mem_of_getElem? (i := 7) rfl))) rfl (by decide +kernel) ⟨by rw [← hR]; exact Nat.le_of_ble_eq_true rfl, by rw [← hR]; exact Nat.le_of_ble_eq_true rfl⟩) ⟨fun a U g mk q => by obtain ⟨q0, q1, q2, qK, q10, q11, q12, q13, q14, q15, q16, q17⟩ := q; exact ⟨q0, q1, q2, jG.calling g mk a qK, q10, q11, q12, q13, q14, q15, q16, q17⟩, fun U hU hW => ⟨rfl, hU, hh_9.2.1, hG.step hW hU hh_9.1, hg_variables_4, hg_names_7, hg_hypotheses_10, hraw_1, hnr_1, hbr_1, jP.nil, (by omega), (by omega), by first | omega | (refine ⟨?_, ?_, ?_, ?_, ?_⟩ <;> (first | omega | rfl | assumption | decide | exact Or.inl rfl | exact Or.inr rfl | (simp only; omega)))⟩⟩ rfl rfl hl.1 rfl (lv_room (Nat.le_of_ble_eq_true rfl)) dX3_withFormula_17 ⟨by rw [hRc]; omega, by rw [hRs]; omega⟩) hh_9.1 (fun q _ h => h) (fun q h => h) (fun u_11 t_11 H_11 locs_11 ht_11 hvm_11 hr_12 hb_11 hz_11 hk_11 hS_11 => ?_)
  rw [ht_11] at hb_11
  obtain ⟨G_11, rfl⟩ : ∃ z, z = u_11 := ⟨_, rfl⟩
  try simp only at hb_11
  obtain ⟨⟨hb_111, hb_112, hb_113, hb_114, hb_115, hb_116⟩, hN_11, hgc_11, hbX_11⟩ := hb_11
  have hh_11 : jSt (dC, dI) B base G0 G_11 EX3_withFormulaZ s.heap ((0 + 1) + (0)) ((0 + 4) + (0)) [(r0, 5, 2, .ref hypotheses_10), (r0, 5, 1, .ref names_7), (r0, 5, 0, .ref variables_4)] [] [] H_11 locs_11 := (hh_9.callG hb_111 hb_112 hb_113 hb_114 hb_115 hS_11 rfl (L1 := [(r0, 5, 2, .ref hypotheses_10), (r0, 5, 1, .ref names_7), (r0, 5, 0, .ref variables_4)]) [0, 1, 2] rfl rfl (M1 := []) [] rfl rfl (I1 := []) [] rfl rfl).more hb_116
  have hNn_11 : (jNk [0, 1, 2, 3, 4, 6, 7, 8, 9, 10, 11, 12, 13, 14, 15, 16]) G0 G_11 := (jNk.rf).tr hN_11
  have hg_13 := hb_112 _ _ hg_r0
  have hg_14 := hb_112 _ _ hg_hypotheses_10
  have hg_15 := hb_112 _ _ hg_names_7
  have hg_16 := hb_112 _ _ hg_variables_4
  try simp only at hr_12
  have hsz_17 := hh_11.2.2.2.2.2.1
  have htt_17 := hh_11.2.2.2.2.2.2.1
  refine W.room (fun hrc_17 hrs_17 => ?_)
  refine W.widen (k := LC - s.heap.size) (n := LS - jTot s.heap) (by omega) (by omega) ?_
  rw [hQ]
  exact W.aret (v := .ref s.heap.size) hx hb hr (Or.inl ⟨_, rfl⟩) (Or.inr ⟨_, rfl⟩) (fun t ht hW => ⟨⟨.ref s.heap.size, ((10 * (n0 / 10)), G_11), rfl, ⟨⟨_, rfl, hgc_11⟩, ⟨_, rfl, hsy_1⟩, by first | rfl | ((try dsimp only); first | omega | rfl | assumption | fail)⟩, ⟨hh_11.ra (by first | omega | (simp only; omega)) (by first | omega | (simp only; omega)) (M1 := []) [] rfl ht, hNn_11⟩⟩, by rw [ht]; try exact hh_11.1.1, fun q h9 hq => by rw [ht]; try exact hh_11.1.2.1 q h9 hq⟩) hh_11.1.2.2 dX3_withFormula_20
set_option maxHeartbeats 4000000 in
set_option maxRecDepth 20000 in
theorem uX3_withVariable (l : Launch) (dC : Nat → ClassId) (dI : Nat → Nat → Nat) (ca : Nat → ClassId) (base : Nat) (B : jF) (hB : jBok B) (hAp : jAp (dC, dI)) (hB5 : ∀ n G a H, B 5 n G a H ↔ jOb (dC, dI) 5 4 (F5 n G) a H) (hB101 : ∀ n G a H, B 101 n G a H ↔ jAr (dC, dI) (ca 1) (fun j z => True) n a H) (hB280 : ∀ n G a H, B 280 n G a H ↔ jAr (dC, dI) (ca 1) (fun j z => -1 ≤ z.toInt) n a H) (hB313 : ∀ n G a H, B 313 n G a H ↔ jAq (dC, dI) (ca 8) (jQk 280 80) n G a H) (G0 : jT) (H0 : Heap) (r0 : Nat) (a1 : Int32) (r2 : Nat) (n0 : Nat) (n2 : Nat) (LC LS : Nat) : Met l yX3_withVariable (jw yX3_withVariable cX3_withVariable 3 (some (.object "ProofServer$Goal"))) ({ frames := 3, cells := LC - H0.size, slots := LS - jTot H0, locals := 105 }) (va_Pc [.ref r0, .int a1, .ref r2] (fun U => U.heap = H0 ∧ jX B base G0 [] H0 ∧ jG dC dI ca base U ∧ G0 r0 = some (5, n0) ∧ G0 r2 = some (280, n2) ∧ jP (dC, dI) G0 H0 [] ∧ H0.size + 2 ≤ LC ∧ jTot H0 + 11 ≤ LS ∧ n0 % 10 = 1 ∧ n2 ≤ 80)) (jQx (S := Nat × jT) (fun v u => jRf u.2 5 u.1 v ∧ jNwv v H0 ∧ u.1 / 10 = n0 / 10 ∧ (u.1 % 10 = 1 ∨ u.1 % 10 = 2)) (fun u t => jRa (dC, dI) B base G0 u.2 EX3_withVariable H0 (2) (11) [] t.heap ∧ (jNk [0, 1, 2, 3, 4, 6, 7, 8, 9, 10, 11, 12, 13, 14, 15, 16]) G0 u.2) (jA base)) (LC - H0.size) (LS - jTot H0) (jA base) := by
  refine Met.ofW (cc := cX3_withVariable) (maxL := 3) (ret := (some (.object "ProofServer$Goal"))) (by decide) rfl ?_
  intro p e s m args below meth c s₁ Bd hml hv
  obtain ⟨rfl, hH0, hX, hG, hg_r0, hg_r2, hP0, hLC0, hLS0, hp0, hp1⟩ := hv
  have hK := hG.1
  have hx := Bd.exec
  have hb := Bd.bytes
  have hr := Bd.returns
  have hts := atoms_spec (ws := (jw yX3_withVariable cX3_withVariable 3 (some (.object "ProofServer$Goal")))) Bd.pre
  have htw : ∀ w ∈ jWl, w.before _ s = true := fun w h => hts w (List.mem_cons_of_mem _ h)
  have hown : s.vm.findClass RX3 = some m.cls := findClass_of_methodNamed Bd.named
  have hlocks := Bd.notSynchronized
  obtain ⟨Q, hQ⟩ : ∃ Q, Q = MQ below (jQx (S := Nat × jT) (fun v u => jRf u.2 5 u.1 v ∧ jNwv v H0 ∧ u.1 / 10 = n0 / 10 ∧ (u.1 % 10 = 1 ∨ u.1 % 10 = 2)) (fun u t => jRa (dC, dI) B base G0 u.2 EX3_withVariable H0 (2) (11) [] t.heap ∧ (jNk [0, 1, 2, 3, 4, 6, 7, 8, 9, 10, 11, 12, 13, 14, 15, 16]) G0 u.2) (jA base)) ([.ref r0, .int a1, .ref r2] : List Value).toArray s (LC - H0.size) (LS - jTot H0) (jA base) := ⟨_, rfl⟩
  rw [← hQ]
  have hl := lv_entry ([.ref r0, .int a1, .ref r2]) (n := 3) (Nat.le_of_ble_eq_true rfl)
  rw [lg_entry_eq]
  generalize (lg_sl ([.ref r0, .int a1, .ref r2]) ++ List.replicate (3 - (lg_sl ([.ref r0, .int a1, .ref r2])).length) Slot.unset).toArray = ls at hl ⊢
  have hl : lv_has ls 3 [(0, .ref r0), (1, .int a1), (2, .ref r2)] := hl
  generalize hR : (headSpec (jw yX3_withVariable cX3_withVariable 3 (some (.object "ProofServer$Goal"))) ({ frames := 3, cells := LC - H0.size, slots := LS - jTot H0, locals := 105 })).room = R
  subst hH0
  have hh : jSt (dC, dI) B base G0 G0 EX3_withVariable s.heap 0 0 [] [] [] s.heap [] := jSt.start hX hP0 jMc.nil jIs.nil
  clear hX hP0
  have hk0 : (0 : Int32).toInt = 0 := by decide
  have hk1 : (1 : Int32).toInt = 1 := by decide
  have hly_5_0 := htw (u_lay RX3 TX3 0) (jWc_wsX30 _ (u_in_lay (by decide)))
  have hly_5_1 := htw (u_lay RX3 TX3 1) (jWc_wsX30 _ (u_in_lay (by decide)))
  have hly_5_2 := htw (u_lay RX3 TX3 2) (jWc_wsX30 _ (u_in_lay (by decide)))
  have hlk_9 := (htw (.fieldLink RX3 9 "ProofServer$Goal" "variables" "[I") (jWr_83 _ (List.mem_of_getElem? (i := 10) rfl)))
  have hlk_15 := (htw (.fieldLink RX3 15 "ProofServer$Goal" "names" "[I") (jWr_83 _ (List.mem_of_getElem? (i := 11) rfl)))
  have hlk_18 := (htw (.fieldLink RX3 18 "ProofServer$Goal" "hypotheses" "[[I") (jWr_83 _ (List.mem_of_getElem? (i := 12) rfl)))
  have hrg_a1 := jb_rng a1
  have hbs : base ≤ s.heap.size := Nat.le_of_lt (Nat.lt_of_le_of_lt (hh.ab hg_r0).1 (hh.ab hg_r0).2)
  have hRc : R.cells = LC - s.heap.size := by rw [← hR]; rfl
  have hRs : R.slots = LS - jTot s.heap := by rw [← hR]; rfl
  have hsz_1 := hh.2.2.2.2.2.1
  have htt_1 := hh.2.2.2.2.2.2.1
  refine j7_newo (k := 5) (C := RX3) (T := TX3) (N := 4) (fs := [.null, .null, .null, .null]) hx hb htw jWc_wsX30 (fun k => ([(.array .int), (.array .int), (.array (.array .int)), (.array .int)] : List FieldType).getD k .int) (by decide +kernel) hown (htw (.classLink RX3 10 RX3) (jWr_85 _ (List.mem_of_getElem? (i := 4) rfl))) (htw (.instantiable RX3 4) (jWr_82 _ (List.mem_of_getElem? (i := 9) rfl))) (htw (.initialized RX3) (jWr_82 _ (List.mem_of_getElem? (i := 10) rfl))) hK rfl (fun j hj => by rcases (by omega : j = 0 ∨ j = 1 ∨ j = 2 ∨ j = 3) with rfl | rfl | rfl | rfl <;> rfl) hh hB (by rw [hRc]; omega) (by rw [hRs]; omega) dX3_withVariable_0 (fun H_1 hraw_1 hfr_1 hnr_1 hh_1 => ?_)
  have hke_1 : jKe G0 G0 s.heap H_1 := jKe.raw hfr_1
  have hbr_1 : base ≤ s.heap.size := Nat.le_trans hbs hh.1.1
  have hsy_1 : s.heap.size ≤ s.heap.size := hh.1.1
  clear hh
  refine lv_dup hx hb dX3_withVariable_3 rfl ?_
  refine lv_aload_n hx hb dX3_withVariable_4 rfl (lv_at hl 0 rfl) ?_
  obtain ⟨v_2, hv_2, hh_3⟩ := hh_1.pin (C := RX3) (T := TX3) (N := 4) hB5 rfl (by decide) hg_r0 (i := 0) (by decide) rfl
  clear hh_1
  obtain ⟨variables_4, nvariables_4, rfl, hg_variables_4, hvavariables_4, hvbvariables_4, hvcvariables_4⟩ := hv_2
  refine j7_read hx hb hown hK (C := RX3) (T := TX3) (N := 4) rfl hly_5_0 hlk_9 (hh_3.at 0 rfl) dX3_withVariable_5 ?_
  refine lv_iload_n hx hb dX3_withVariable_8 rfl (lv_at hl 1 rfl) ?_
  have hsz_5 := hh_3.2.2.2.2.2.1
  have htt_5 := hh_3.2.2.2.2.2.2.1
  refine W.room (fun hrc_5 hrs_5 => ?_)
  refine j_callx (A0 := jA base) (H0 := s.heap) (va_runS (As := [.ref variables_4, .int a1]) (rest := [.ref s.heap.size, .ref s.heap.size]) ⟨hx, hb, hml, hown, hts⟩ (uX9_longer l dC dI ca base B hB hAp hB101 G0 H_1 variables_4 a1 nvariables_4 LC LS) (va_cwS 2 hts (jgS (jWr_85 _ (List.mem_of_getElem? (i := 5) rfl)) (jWr_81 _ (List.mem_of_getElem? (i := 20) rfl)) (jWr_4 _ (List.mem_of_getElem? (i := 18) rfl)) (jWr_81 _ (List.mem_of_getElem? (i := 21) rfl))) rfl rfl rfl (by decide +kernel) ⟨by rw [← hR]; exact Nat.le_of_ble_eq_true rfl, by rw [← hR]; exact Nat.le_of_ble_eq_true rfl⟩) ⟨fun a U g mk q => by obtain ⟨q0, q1, q2, qK, q10, q11, q12⟩ := q; exact ⟨q0, q1, q2, jG.calling g mk a qK, q10, q11, q12⟩, fun U hU hW => ⟨rfl, hU, hh_3.2.1, hG.step hW hU hh_3.1, hg_variables_4, jP.nil, by first | omega | rfl | assumption | decide | exact Or.inl rfl | exact Or.inr rfl | (simp only; omega)⟩⟩ rfl rfl hl.1 rfl (lv_room (Nat.le_of_ble_eq_true rfl)) dX3_withVariable_9 ⟨by rw [hRc]; omega, by rw [hRs]; omega⟩) hh_3.1 (fun q _ h => h) (fun q h => h) (fun r_6 u_5 t_5 H_5 locs_5 ht_5 hvm_5 hr_6 hb_5 hz_5 hk_5 hS_5 => ?_)
  rw [ht_5] at hb_5
  obtain ⟨m_ret_5, G_5⟩ := u_5
  simp only at hb_5
  obtain ⟨⟨hb_51, hb_52, hb_53, hb_54, hb_55, hb_56⟩, hN_5, hbK_5⟩ := hb_5
  have hN_5 : (jNk [0, 1, 2, 3, 4, 6, 7, 8, 9, 10, 11, 12, 13, 14, 15, 16]) G0 G_5 := hN_5.sub (by decide)
  have hh_5 : jSt (dC, dI) B base G0 G_5 EX3_withVariable s.heap ((0 + 1) + (1)) ((0 + 4) + (m_ret_5)) [(r0, 5, 0, .ref variables_4)] [] [] H_5 locs_5 := (hh_3.callG hb_51 hb_52 hb_53 hb_54 hb_55 hS_5 rfl (L1 := [(r0, 5, 0, .ref variables_4)]) [0] rfl rfl (M1 := []) [] rfl rfl (I1 := []) [] rfl rfl).more hb_56
  have hNn_5 : (jNk [0, 1, 2, 3, 4, 6, 7, 8, 9, 10, 11, 12, 13, 14, 15, 16]) G0 G_5 := (jNk.rf).tr hN_5
  have hg_7 := hb_52 _ _ hg_r0
  have hg_8 := hb_52 _ _ hg_r2
  have hg_9 := hb_52 _ _ hg_variables_4
  obtain ⟨hr_6, hr_6n, hr_6p⟩ := hr_6
  try simp only at hr_6p
  have hraw_10n := hbK_5.nr hraw_1.lt hnr_1
  have hraw_10 := hraw_1.kept (hbK_5.1 _ hraw_1.lt)
  obtain ⟨ret_11, rfl, hg_ret_11⟩ := hr_6
  have hsy_5 : s.heap.size ≤ ret_11 := Nat.le_trans hh_3.1.1 hr_6n.le
  refine lv_aload_n hx hb dX3_withVariable_12 rfl (lv_at hl 0 rfl) ?_
  obtain ⟨v_12, hv_12, hh_13⟩ := hh_5.pin (C := RX3) (T := TX3) (N := 4) hB5 rfl (by decide) hg_7 (i := 1) (by decide) rfl
  clear hh_5
  obtain ⟨names_14, rfl, hg_names_14⟩ := hv_12
  refine j7_read hx hb hown hK (C := RX3) (T := TX3) (N := 4) rfl hly_5_1 hlk_15 (hh_13.at 0 rfl) dX3_withVariable_13 ?_
  refine lv_aload_n hx hb dX3_withVariable_16 rfl (lv_at hl 0 rfl) ?_
  obtain ⟨v_15, hv_15, hh_16⟩ := hh_13.pin (C := RX3) (T := TX3) (N := 4) hB5 rfl (by decide) hg_7 (i := 2) (by decide) rfl
  clear hh_13
  obtain ⟨hypotheses_17, khypotheses_17, rfl, hg_hypotheses_17, hhahypotheses_17, hhbhypotheses_17, hhchypotheses_17, hhdhypotheses_17, hhehypotheses_17⟩ := hv_15
  obtain rfl : khypotheses_17 = 313 := hhbhypotheses_17 (by omega)
  refine j7_read hx hb hown hK (C := RX3) (T := TX3) (N := 4) rfl hly_5_2 hlk_18 (hh_16.at 0 rfl) dX3_withVariable_17 ?_
  refine lv_aload_n hx hb dX3_withVariable_20 rfl (lv_at hl 2 rfl) ?_
  have hsz_18 := hh_16.2.2.2.2.2.1
  have htt_18 := hh_16.2.2.2.2.2.2.1
  refine W.room (fun hrc_18 hrs_18 => ?_)
  refine va_callv (A0 := jA base) (H0 := s.heap) (va_runI (As := [.ref ret_11, .ref names_14, .ref hypotheses_17, .ref r2]) (rest := [.ref s.heap.size]) ⟨hx, hb, hml, hown, hts⟩ (uX3_init l dC dI ca base B hB hAp hB5 hB101 hB280 hB313 G_5 H_5 s.heap.size ret_11 names_14 hypotheses_17 r2 m_ret_5 (n0 / 10) (n0 / 10) n2 (10 * (n0 / 10) + 1 + nvariables_4 / 6) LC LS) (cwI 4 hts (jgW (jWr_83 _ (List.mem_of_getElem? (i := 8) rfl))) rfl rfl rfl (htw (.initialized RX3) (jWr_82 _ (List.mem_of_getElem? (i := 10) rfl))) (htw (.methodLink RX3 25 yX3_init) (jWr_85 _ (List.mem_of_getElem? (i := 7) rfl))) (htw (.instanceMethod yX3_init) (jWr_83 _ (List.mem_of_getElem? (i := 7) rfl))) rfl (by decide +kernel) ⟨by rw [← hR]; exact Nat.le_of_ble_eq_true rfl, by rw [← hR]; exact Nat.le_of_ble_eq_true rfl⟩) ⟨fun a U g mk q => by obtain ⟨q0, q1, q2, qK, q10, q11, q12, q13, q14, q15, q16, q17, q18⟩ := q; exact ⟨q0, q1, q2, jG.calling g mk a qK, q10, q11, q12, q13, q14, q15, q16, q17, q18⟩, fun U hU hW => ⟨rfl, hU, hh_16.2.1, hG.step hW hU hh_16.1, hg_ret_11, hg_names_14, hg_hypotheses_17, hg_8, hraw_10, hraw_10n, hbr_1, jP.nil, (by omega), (by omega), by first | omega | (refine ⟨?_, ?_, ?_, ?_, ?_, ?_⟩ <;> (first | omega | rfl | assumption | decide | exact Or.inl rfl | exact Or.inr rfl | (simp only; omega)))⟩⟩ rfl rfl hl.1 rfl (lv_room (Nat.le_of_ble_eq_true rfl)) dX3_withVariable_21 ⟨by rw [hRc]; omega, by rw [hRs]; omega⟩) hh_16.1 (fun q _ h => h) (fun q h => h) (fun u_18 t_18 H_18 locs_18 ht_18 hvm_18 hr_19 hb_18 hz_18 hk_18 hS_18 => ?_)
  rw [ht_18] at hb_18
  obtain ⟨G_18, rfl⟩ : ∃ z, z = u_18 := ⟨_, rfl⟩
  try simp only at hb_18
  obtain ⟨⟨hb_181, hb_182, hb_183, hb_184, hb_185, hb_186⟩, hN_18, hgc_18, hbX_18⟩ := hb_18
  have hh_18 : jSt (dC, dI) B base G0 G_18 EX3_withVariable s.heap (((0 + 1) + (1)) + (0)) (((0 + 4) + (m_ret_5)) + (0)) [(r0, 5, 2, .ref hypotheses_17), (r0, 5, 1, .ref names_14), (r0, 5, 0, .ref variables_4)] [] [] H_18 locs_18 := (hh_16.callG hb_181 hb_182 hb_183 hb_184 hb_185 hS_18 rfl (L1 := [(r0, 5, 2, .ref hypotheses_17), (r0, 5, 1, .ref names_14), (r0, 5, 0, .ref variables_4)]) [0, 1, 2] rfl rfl (M1 := []) [] rfl rfl (I1 := []) [] rfl rfl).more hb_186
  have hNn_18 : (jNk [0, 1, 2, 3, 4, 6, 7, 8, 9, 10, 11, 12, 13, 14, 15, 16]) G0 G_18 := (hNn_5).tr hN_18
  have hg_20 := hb_182 _ _ hg_7
  have hg_21 := hb_182 _ _ hg_8
  have hg_22 := hb_182 _ _ hg_hypotheses_17
  have hg_23 := hb_182 _ _ hg_names_14
  have hg_24 := hb_182 _ _ hg_9
  try simp only at hr_19
  have hsz_25 := hh_18.2.2.2.2.2.1
  have htt_25 := hh_18.2.2.2.2.2.2.1
  refine W.room (fun hrc_25 hrs_25 => ?_)
  refine W.widen (k := LC - s.heap.size) (n := LS - jTot s.heap) (by omega) (by omega) ?_
  rw [hQ]
  exact W.aret (v := .ref s.heap.size) hx hb hr (Or.inl ⟨_, rfl⟩) (Or.inr ⟨_, rfl⟩) (fun t ht hW => ⟨⟨.ref s.heap.size, ((10 * (n0 / 10) + 1 + nvariables_4 / 6), G_18), rfl, ⟨⟨_, rfl, hgc_18⟩, ⟨_, rfl, hsy_1⟩, by (try dsimp only); exact ⟨(by first | omega | rfl | assumption | fail), (by first | omega | rfl | assumption | fail)⟩⟩, ⟨hh_18.ra (by first | omega | (simp only; omega)) (by first | omega | (simp only; omega)) (M1 := []) [] rfl ht, hNn_18⟩⟩, by rw [ht]; try exact hh_18.1.1, fun q h9 hq => by rw [ht]; try exact hh_18.1.2.1 q h9 hq⟩) hh_18.1.2.2 dX3_withVariable_24
set_option maxHeartbeats 4000000 in
set_option maxRecDepth 20000 in
theorem uX3_withVariableZ (l : Launch) (dC : Nat → ClassId) (dI : Nat → Nat → Nat) (ca : Nat → ClassId) (base : Nat) (B : jF) (hB : jBok B) (hAp : jAp (dC, dI)) (hB5 : ∀ n G a H, B 5 n G a H ↔ jOb (dC, dI) 5 4 (F5 n G) a H) (hB101 : ∀ n G a H, B 101 n G a H ↔ jAr (dC, dI) (ca 1) (fun j z => True) n a H) (hB280 : ∀ n G a H, B 280 n G a H ↔ jAr (dC, dI) (ca 1) (fun j z => -1 ≤ z.toInt) n a H) (hB313 : ∀ n G a H, B 313 n G a H ↔ jAq (dC, dI) (ca 8) (jQk 280 80) n G a H) (G0 : jT) (H0 : Heap) (r0 : Nat) (a1 : Int32) (n0 : Nat) (LC LS : Nat) : Met l yX3_withVariable (jw yX3_withVariable cX3_withVariable 3 (some (.object "ProofServer$Goal"))) ({ frames := 3, cells := LC - H0.size, slots := LS - jTot H0, locals := 105 }) (va_Pc [.ref r0, .int a1, .null] (fun U => U.heap = H0 ∧ jX B base G0 [] H0 ∧ jG dC dI ca base U ∧ G0 r0 = some (5, n0) ∧ jP (dC, dI) G0 H0 [] ∧ H0.size + 2 ≤ LC ∧ jTot H0 + 11 ≤ LS ∧ n0 % 10 = 1)) (jQx (S := Nat × jT) (fun v u => jRf u.2 5 u.1 v ∧ jNwv v H0 ∧ u.1 = 10 * (n0 / 10)) (fun u t => jRa (dC, dI) B base G0 u.2 EX3_withVariableZ H0 (2) (11) [] t.heap ∧ (jNk [0, 1, 2, 3, 4, 6, 7, 8, 9, 10, 11, 12, 13, 14, 15, 16]) G0 u.2) (jA base)) (LC - H0.size) (LS - jTot H0) (jA base) := by
  refine Met.ofW (cc := cX3_withVariable) (maxL := 3) (ret := (some (.object "ProofServer$Goal"))) (by decide) rfl ?_
  intro p e s m args below meth c s₁ Bd hml hv
  obtain ⟨rfl, hH0, hX, hG, hg_r0, hP0, hLC0, hLS0, hp0⟩ := hv
  have hK := hG.1
  have hx := Bd.exec
  have hb := Bd.bytes
  have hr := Bd.returns
  have hts := atoms_spec (ws := (jw yX3_withVariable cX3_withVariable 3 (some (.object "ProofServer$Goal")))) Bd.pre
  have htw : ∀ w ∈ jWl, w.before _ s = true := fun w h => hts w (List.mem_cons_of_mem _ h)
  have hown : s.vm.findClass RX3 = some m.cls := findClass_of_methodNamed Bd.named
  have hlocks := Bd.notSynchronized
  obtain ⟨Q, hQ⟩ : ∃ Q, Q = MQ below (jQx (S := Nat × jT) (fun v u => jRf u.2 5 u.1 v ∧ jNwv v H0 ∧ u.1 = 10 * (n0 / 10)) (fun u t => jRa (dC, dI) B base G0 u.2 EX3_withVariableZ H0 (2) (11) [] t.heap ∧ (jNk [0, 1, 2, 3, 4, 6, 7, 8, 9, 10, 11, 12, 13, 14, 15, 16]) G0 u.2) (jA base)) ([.ref r0, .int a1, .null] : List Value).toArray s (LC - H0.size) (LS - jTot H0) (jA base) := ⟨_, rfl⟩
  rw [← hQ]
  have hl := lv_entry ([.ref r0, .int a1, .null]) (n := 3) (Nat.le_of_ble_eq_true rfl)
  rw [lg_entry_eq]
  generalize (lg_sl ([.ref r0, .int a1, .null]) ++ List.replicate (3 - (lg_sl ([.ref r0, .int a1, .null])).length) Slot.unset).toArray = ls at hl ⊢
  have hl : lv_has ls 3 [(0, .ref r0), (1, .int a1), (2, .null)] := hl
  generalize hR : (headSpec (jw yX3_withVariable cX3_withVariable 3 (some (.object "ProofServer$Goal"))) ({ frames := 3, cells := LC - H0.size, slots := LS - jTot H0, locals := 105 })).room = R
  subst hH0
  have hh : jSt (dC, dI) B base G0 G0 EX3_withVariableZ s.heap 0 0 [] [] [] s.heap [] := jSt.start hX hP0 jMc.nil jIs.nil
  clear hX hP0
  have hk0 : (0 : Int32).toInt = 0 := by decide
  have hk1 : (1 : Int32).toInt = 1 := by decide
  have hly_5_0 := htw (u_lay RX3 TX3 0) (jWc_wsX30 _ (u_in_lay (by decide)))
  have hly_5_1 := htw (u_lay RX3 TX3 1) (jWc_wsX30 _ (u_in_lay (by decide)))
  have hly_5_2 := htw (u_lay RX3 TX3 2) (jWc_wsX30 _ (u_in_lay (by decide)))
  have hlk_9 := (htw (.fieldLink RX3 9 "ProofServer$Goal" "variables" "[I") (jWr_83 _ (List.mem_of_getElem? (i := 10) rfl)))
  have hlk_15 := (htw (.fieldLink RX3 15 "ProofServer$Goal" "names" "[I") (jWr_83 _ (List.mem_of_getElem? (i := 11) rfl)))
  have hlk_18 := (htw (.fieldLink RX3 18 "ProofServer$Goal" "hypotheses" "[[I") (jWr_83 _ (List.mem_of_getElem? (i := 12) rfl)))
  have hrg_a1 := jb_rng a1
  have hbs : base ≤ s.heap.size := Nat.le_of_lt (Nat.lt_of_le_of_lt (hh.ab hg_r0).1 (hh.ab hg_r0).2)
  have hRc : R.cells = LC - s.heap.size := by rw [← hR]; rfl
  have hRs : R.slots = LS - jTot s.heap := by rw [← hR]; rfl
  have hsz_1 := hh.2.2.2.2.2.1
  have htt_1 := hh.2.2.2.2.2.2.1
  refine j7_newo (k := 5) (C := RX3) (T := TX3) (N := 4) (fs := [.null, .null, .null, .null]) hx hb htw jWc_wsX30 (fun k => ([(.array .int), (.array .int), (.array (.array .int)), (.array .int)] : List FieldType).getD k .int) (by decide +kernel) hown (htw (.classLink RX3 10 RX3) (jWr_85 _ (List.mem_of_getElem? (i := 4) rfl))) (htw (.instantiable RX3 4) (jWr_82 _ (List.mem_of_getElem? (i := 9) rfl))) (htw (.initialized RX3) (jWr_82 _ (List.mem_of_getElem? (i := 10) rfl))) hK rfl (fun j hj => by rcases (by omega : j = 0 ∨ j = 1 ∨ j = 2 ∨ j = 3) with rfl | rfl | rfl | rfl <;> rfl) hh hB (by rw [hRc]; omega) (by rw [hRs]; omega) dX3_withVariable_0 (fun H_1 hraw_1 hfr_1 hnr_1 hh_1 => ?_)
  have hke_1 : jKe G0 G0 s.heap H_1 := jKe.raw hfr_1
  have hbr_1 : base ≤ s.heap.size := Nat.le_trans hbs hh.1.1
  have hsy_1 : s.heap.size ≤ s.heap.size := hh.1.1
  clear hh
  refine lv_dup hx hb dX3_withVariable_3 rfl ?_
  refine lv_aload_n hx hb dX3_withVariable_4 rfl (lv_at hl 0 rfl) ?_
  obtain ⟨v_2, hv_2, hh_3⟩ := hh_1.pin (C := RX3) (T := TX3) (N := 4) hB5 rfl (by decide) hg_r0 (i := 0) (by decide) rfl
  clear hh_1
  obtain ⟨variables_4, nvariables_4, rfl, hg_variables_4, hvavariables_4, hvbvariables_4, hvcvariables_4⟩ := hv_2
  refine j7_read hx hb hown hK (C := RX3) (T := TX3) (N := 4) rfl hly_5_0 hlk_9 (hh_3.at 0 rfl) dX3_withVariable_5 ?_
  refine lv_iload_n hx hb dX3_withVariable_8 rfl (lv_at hl 1 rfl) ?_
  have hsz_5 := hh_3.2.2.2.2.2.1
  have htt_5 := hh_3.2.2.2.2.2.2.1
  refine W.room (fun hrc_5 hrs_5 => ?_)
  refine j_callx (A0 := jA base) (H0 := s.heap) (va_runS (As := [.ref variables_4, .int a1]) (rest := [.ref s.heap.size, .ref s.heap.size]) ⟨hx, hb, hml, hown, hts⟩ (uX9_longer l dC dI ca base B hB hAp hB101 G0 H_1 variables_4 a1 nvariables_4 LC LS) (va_cwS 2 hts (jgS (jWr_85 _ (List.mem_of_getElem? (i := 5) rfl)) (jWr_81 _ (List.mem_of_getElem? (i := 20) rfl)) (jWr_4 _ (List.mem_of_getElem? (i := 18) rfl)) (jWr_81 _ (List.mem_of_getElem? (i := 21) rfl))) rfl rfl rfl (by decide +kernel) ⟨by rw [← hR]; exact Nat.le_of_ble_eq_true rfl, by rw [← hR]; exact Nat.le_of_ble_eq_true rfl⟩) ⟨fun a U g mk q => by obtain ⟨q0, q1, q2, qK, q10, q11, q12⟩ := q; exact ⟨q0, q1, q2, jG.calling g mk a qK, q10, q11, q12⟩, fun U hU hW => ⟨rfl, hU, hh_3.2.1, hG.step hW hU hh_3.1, hg_variables_4, jP.nil, by first | omega | rfl | assumption | decide | exact Or.inl rfl | exact Or.inr rfl | (simp only; omega)⟩⟩ rfl rfl hl.1 rfl (lv_room (Nat.le_of_ble_eq_true rfl)) dX3_withVariable_9 ⟨by rw [hRc]; omega, by rw [hRs]; omega⟩) hh_3.1 (fun q _ h => h) (fun q h => h) (fun r_6 u_5 t_5 H_5 locs_5 ht_5 hvm_5 hr_6 hb_5 hz_5 hk_5 hS_5 => ?_)
  rw [ht_5] at hb_5
  obtain ⟨m_ret_5, G_5⟩ := u_5
  simp only at hb_5
  obtain ⟨⟨hb_51, hb_52, hb_53, hb_54, hb_55, hb_56⟩, hN_5, hbK_5⟩ := hb_5
  have hN_5 : (jNk [0, 1, 2, 3, 4, 6, 7, 8, 9, 10, 11, 12, 13, 14, 15, 16]) G0 G_5 := hN_5.sub (by decide)
  have hh_5 : jSt (dC, dI) B base G0 G_5 EX3_withVariableZ s.heap ((0 + 1) + (1)) ((0 + 4) + (m_ret_5)) [(r0, 5, 0, .ref variables_4)] [] [] H_5 locs_5 := (hh_3.callG hb_51 hb_52 hb_53 hb_54 hb_55 hS_5 rfl (L1 := [(r0, 5, 0, .ref variables_4)]) [0] rfl rfl (M1 := []) [] rfl rfl (I1 := []) [] rfl rfl).more hb_56
  have hNn_5 : (jNk [0, 1, 2, 3, 4, 6, 7, 8, 9, 10, 11, 12, 13, 14, 15, 16]) G0 G_5 := (jNk.rf).tr hN_5
  have hg_7 := hb_52 _ _ hg_r0
  have hg_8 := hb_52 _ _ hg_variables_4
  obtain ⟨hr_6, hr_6n, hr_6p⟩ := hr_6
  try simp only at hr_6p
  have hraw_9n := hbK_5.nr hraw_1.lt hnr_1
  have hraw_9 := hraw_1.kept (hbK_5.1 _ hraw_1.lt)
  obtain ⟨ret_10, rfl, hg_ret_10⟩ := hr_6
  have hsy_5 : s.heap.size ≤ ret_10 := Nat.le_trans hh_3.1.1 hr_6n.le
  refine lv_aload_n hx hb dX3_withVariable_12 rfl (lv_at hl 0 rfl) ?_
  obtain ⟨v_11, hv_11, hh_12⟩ := hh_5.pin (C := RX3) (T := TX3) (N := 4) hB5 rfl (by decide) hg_7 (i := 1) (by decide) rfl
  clear hh_5
  obtain ⟨names_13, rfl, hg_names_13⟩ := hv_11
  refine j7_read hx hb hown hK (C := RX3) (T := TX3) (N := 4) rfl hly_5_1 hlk_15 (hh_12.at 0 rfl) dX3_withVariable_13 ?_
  refine lv_aload_n hx hb dX3_withVariable_16 rfl (lv_at hl 0 rfl) ?_
  obtain ⟨v_14, hv_14, hh_15⟩ := hh_12.pin (C := RX3) (T := TX3) (N := 4) hB5 rfl (by decide) hg_7 (i := 2) (by decide) rfl
  clear hh_12
  obtain ⟨hypotheses_16, khypotheses_16, rfl, hg_hypotheses_16, hhahypotheses_16, hhbhypotheses_16, hhchypotheses_16, hhdhypotheses_16, hhehypotheses_16⟩ := hv_14
  obtain rfl : khypotheses_16 = 313 := hhbhypotheses_16 (by omega)
  refine j7_read hx hb hown hK (C := RX3) (T := TX3) (N := 4) rfl hly_5_2 hlk_18 (hh_15.at 0 rfl) dX3_withVariable_17 ?_
  refine j7_nld_n hx hb dX3_withVariable_20 rfl (lv_at hl 2 rfl) ?_
  have hsz_17 := hh_15.2.2.2.2.2.1
  have htt_17 := hh_15.2.2.2.2.2.2.1
  refine W.room (fun hrc_17 hrs_17 => ?_)
  refine va_callv (A0 := jA base) (H0 := s.heap) (va_runI (As := [.ref ret_10, .ref names_13, .ref hypotheses_16, .null]) (rest := [.ref s.heap.size]) ⟨hx, hb, hml, hown, hts⟩ (uX3_initZ l dC dI ca base B hB hAp hB5 hB101 hB280 hB313 G_5 H_5 s.heap.size ret_10 names_13 hypotheses_16 m_ret_5 (n0 / 10) (n0 / 10) (10 * (n0 / 10)) LC LS) (cwI 4 hts (jgW (jWr_83 _ (List.mem_of_getElem? (i := 8) rfl))) rfl rfl rfl (htw (.initialized RX3) (jWr_82 _ (List.mem_of_getElem? (i := 10) rfl))) (htw (.methodLink RX3 25 yX3_init) (jWr_85 _ (List.mem_of_getElem? (i := 7) rfl))) (htw (.instanceMethod yX3_init) (jWr_83 _ (List.mem_of_getElem? (i := 7) rfl))) rfl (by decide +kernel) ⟨by rw [← hR]; exact Nat.le_of_ble_eq_true rfl, by rw [← hR]; exact Nat.le_of_ble_eq_true rfl⟩) ⟨fun a U g mk q => by obtain ⟨q0, q1, q2, qK, q10, q11, q12, q13, q14, q15, q16, q17⟩ := q; exact ⟨q0, q1, q2, jG.calling g mk a qK, q10, q11, q12, q13, q14, q15, q16, q17⟩, fun U hU hW => ⟨rfl, hU, hh_15.2.1, hG.step hW hU hh_15.1, hg_ret_10, hg_names_13, hg_hypotheses_16, hraw_9, hraw_9n, hbr_1, jP.nil, (by omega), (by omega), by first | omega | (refine ⟨?_, ?_, ?_, ?_, ?_⟩ <;> (first | omega | rfl | assumption | decide | exact Or.inl rfl | exact Or.inr rfl | (simp only; omega)))⟩⟩ rfl rfl hl.1 rfl (lv_room (Nat.le_of_ble_eq_true rfl)) dX3_withVariable_21 ⟨by rw [hRc]; omega, by rw [hRs]; omega⟩) hh_15.1 (fun q _ h => h) (fun q h => h) (fun u_17 t_17 H_17 locs_17 ht_17 hvm_17 hr_18 hb_17 hz_17 hk_17 hS_17 => ?_)
  rw [ht_17] at hb_17
  obtain ⟨G_17, rfl⟩ : ∃ z, z = u_17 := ⟨_, rfl⟩
  try simp only at hb_17
  obtain ⟨⟨hb_171, hb_172, hb_173, hb_174, hb_175, hb_176⟩, hN_17, hgc_17, hbX_17⟩ := hb_17
  have hh_17 : jSt (dC, dI) B base G0 G_17 EX3_withVariableZ s.heap (((0 + 1) + (1)) + (0)) (((0 + 4) + (m_ret_5)) + (0)) [(r0, 5, 2, .ref hypotheses_16), (r0, 5, 1, .ref names_13), (r0, 5, 0, .ref variables_4)] [] [] H_17 locs_17 := (hh_15.callG hb_171 hb_172 hb_173 hb_174 hb_175 hS_17 rfl (L1 := [(r0, 5, 2, .ref hypotheses_16), (r0, 5, 1, .ref names_13), (r0, 5, 0, .ref variables_4)]) [0, 1, 2] rfl rfl (M1 := []) [] rfl rfl (I1 := []) [] rfl rfl).more hb_176
  have hNn_17 : (jNk [0, 1, 2, 3, 4, 6, 7, 8, 9, 10, 11, 12, 13, 14, 15, 16]) G0 G_17 := (hNn_5).tr hN_17
  have hg_19 := hb_172 _ _ hg_7
  have hg_20 := hb_172 _ _ hg_hypotheses_16
  have hg_21 := hb_172 _ _ hg_names_13
  have hg_22 := hb_172 _ _ hg_8
  try simp only at hr_18
  have hsz_23 := hh_17.2.2.2.2.2.1
  have htt_23 := hh_17.2.2.2.2.2.2.1
  refine W.room (fun hrc_23 hrs_23 => ?_)
  refine W.widen (k := LC - s.heap.size) (n := LS - jTot s.heap) (by omega) (by omega) ?_
  rw [hQ]
  exact W.aret (v := .ref s.heap.size) hx hb hr (Or.inl ⟨_, rfl⟩) (Or.inr ⟨_, rfl⟩) (fun t ht hW => ⟨⟨.ref s.heap.size, ((10 * (n0 / 10)), G_17), rfl, ⟨⟨_, rfl, hgc_17⟩, ⟨_, rfl, hsy_1⟩, by first | rfl | ((try dsimp only); first | omega | rfl | assumption | fail)⟩, ⟨hh_17.ra (by first | omega | (simp only; omega)) (by first | omega | (simp only; omega)) (M1 := []) [] rfl ht, hNn_17⟩⟩, by rw [ht]; try exact hh_17.1.1, fun q h9 hq => by rw [ht]; try exact hh_17.1.2.1 q h9 hq⟩) hh_17.1.2.2 dX3_withVariable_24
end
section
def EX9_longer_ : List (Nat × Nat) := []
set_option maxHeartbeats 4000000 in
set_option maxRecDepth 20000 in
theorem uX9_longer_ (l : Launch) (dC : Nat → ClassId) (dI : Nat → Nat → Nat) (ca : Nat → ClassId) (base : Nat) (B : jF) (hB : jBok B) (hAp : jAp (dC, dI)) (hB280 : ∀ n G a H, B 280 n G a H ↔ jAr (dC, dI) (ca 1) (fun j z => -1 ≤ z.toInt) n a H) (hB313 : ∀ n G a H, B 313 n G a H ↔ jAq (dC, dI) (ca 8) (jQk 280 80) n G a H) (G0 : jT) (H0 : Heap) (r0 : Nat) (r1 : Nat) (n0 : Nat) (n1 : Nat) (LC LS : Nat) : Met l yX9_longer_ (jw yX9_longer_ cX9_longer_ 4 (some (.array (.array .int)))) ({ frames := 0, cells := LC - H0.size, slots := LS - jTot H0, locals := 0 }) (va_Pc [.ref r0, .ref r1] (fun U => U.heap = H0 ∧ jX B base G0 [] H0 ∧ jG dC dI ca base U ∧ jK5 dC dI ca U ∧ G0 r0 = some (313, n0) ∧ G0 r1 = some (280, n1) ∧ jP (dC, dI) G0 H0 [] ∧ H0.size + 1 ≤ LC ∧ jTot H0 + n0 + 1 ≤ LS ∧ n0 ≤ 100 ∧ n1 ≤ 80)) (jQx (S := Nat × jT) (fun v u => jRf u.2 313 u.1 v ∧ jNwv v H0 ∧ u.1 = n0 + 1) (fun u t => jRa (dC, dI) B base G0 u.2 EX9_longer_ H0 (1) (u.1) [] t.heap ∧ (jNk [0, 1, 2, 3, 4, 5, 6, 7, 8, 9, 10, 11, 12, 13, 14, 15, 16]) G0 u.2 ∧ jKe G0 u.2 H0 t.heap) (jA base)) (LC - H0.size) (LS - jTot H0) (jA base) := by
  refine Met.ofW (cc := cX9_longer_) (maxL := 4) (ret := (some (.array (.array .int)))) (by decide) rfl ?_
  intro p e s m args below meth c s₁ Bd hml hv
  obtain ⟨rfl, hH0, hX, hG, hK5, hg_r0, hg_r1, hP0, hLC0, hLS0, hp0, hp1⟩ := hv
  have hK := hG.1
  have hx := Bd.exec
  have hb := Bd.bytes
  have hr := Bd.returns
  have hts := atoms_spec (ws := (jw yX9_longer_ cX9_longer_ 4 (some (.array (.array .int))))) Bd.pre
  have htw : ∀ w ∈ jWl, w.before _ s = true := fun w h => hts w (List.mem_cons_of_mem _ h)
  have hown : s.vm.findClass RX9 = some m.cls := findClass_of_methodNamed Bd.named
  have hlocks := Bd.notSynchronized
  obtain ⟨Q, hQ⟩ : ∃ Q, Q = MQ below (jQx (S := Nat × jT) (fun v u => jRf u.2 313 u.1 v ∧ jNwv v H0 ∧ u.1 = n0 + 1) (fun u t => jRa (dC, dI) B base G0 u.2 EX9_longer_ H0 (1) (u.1) [] t.heap ∧ (jNk [0, 1, 2, 3, 4, 5, 6, 7, 8, 9, 10, 11, 12, 13, 14, 15, 16]) G0 u.2 ∧ jKe G0 u.2 H0 t.heap) (jA base)) ([.ref r0, .ref r1] : List Value).toArray s (LC - H0.size) (LS - jTot H0) (jA base) := ⟨_, rfl⟩
  rw [← hQ]
  have hl := lv_entry ([.ref r0, .ref r1]) (n := 4) (Nat.le_of_ble_eq_true rfl)
  rw [lg_entry_eq]
  generalize (lg_sl ([.ref r0, .ref r1]) ++ List.replicate (4 - (lg_sl ([.ref r0, .ref r1])).length) Slot.unset).toArray = ls at hl ⊢
  have hl : lv_has ls 4 [(0, .ref r0), (1, .ref r1)] := hl
  generalize hR : (headSpec (jw yX9_longer_ cX9_longer_ 4 (some (.array (.array .int)))) ({ frames := 0, cells := LC - H0.size, slots := LS - jTot H0, locals := 0 })).room = R
  subst hH0
  have hh : jSt (dC, dI) B base G0 G0 EX9_longer_ s.heap 0 0 [] [] [] s.heap [] := jSt.start hX hP0 jMc.nil jIs.nil
  clear hX hP0
  have hk0 : (0 : Int32).toInt = 0 := by decide
  have hk1 : (1 : Int32).toInt = 1 := by decide
  have hbs : base ≤ s.heap.size := Nat.le_of_lt (Nat.lt_of_le_of_lt (hh.ab hg_r0).1 (hh.ab hg_r0).2)
  have hRc : R.cells = LC - s.heap.size := by rw [← hR]; rfl
  have hRs : R.slots = LS - jTot s.heap := by rw [← hR]; rfl
  have hkp : jKe G0 G0 s.heap s.heap := jKe.rf
  refine lv_aload_n hx hb dX9_longer__0 rfl (lv_at hl 0 rfl) ?_
  refine j7_qlen hx hb hK5.1 hh hB313 0 rfl (by decide) hg_r0 (by omega) dX9_longer__1 (fun z_1 hz_1 => ?_)
  refine lv_iconst (v := 1) hx hb dX9_longer__2 (by decide) ?_
  refine lv_iadd hx hb dX9_longer__3 ?_
  refine lv_topi (fun z_2 ez_2 => ?_)
  have hz_2 : z_2.toInt = z_1.toInt + 1 := by rw [ez_2]; exact jb_iadd2 (rfl) ((by decide)) (by omega)
  have hsz_3 := hh.2.2.2.2.2.1
  have htt_3 := hh.2.2.2.2.2.2.1
  have hsy_3 : s.heap.size ≤ s.heap.size := hh.1.1
  refine j7_newaR hx hb hown (show (Cond.classLink RX9 18 (FieldType.array .int).toString).before _ s = true from htw (.classLink RX9 18 "[I") (jWr_8 _ (List.mem_of_getElem? (i := 19) rfl))) hK5 hh hB (x := z_2.toInt) rfl (by omega) (by rw [hRc]; omega) (by rw [hRs]; omega) dX9_longer__4 (fun H_3 hfr_3 hnr_3 hraw_3 hh_3 => ?_)
  have hke_3 : jKe G0 G0 s.heap H_3 := jKe.raw hfr_3
  have hbr_3 : base ≤ s.heap.size := Nat.le_trans hbs hsy_3
  obtain ⟨nq_3, hnq_3⟩ : ∃ q : Nat, q = (z_2.toInt).toNat := ⟨_, rfl⟩
  rw [← hnq_3] at hraw_3 hh_3 ⊢
  clear hh
  have hkp_4 := hkp.tr hke_3
  refine lv_astore_n (lv' := [(2, .ref s.heap.size), (0, .ref r0), (1, .ref r1)]) hx hb dX9_longer__7 rfl hl (by decide) rfl (fun ls hl => ?_)
  refine lv_iconst (v := 0) hx hb dX9_longer__8 (by decide) ?_
  refine lv_istore_n (lv' := [(3, .int 0), (2, .ref s.heap.size), (0, .ref r0), (1, .ref r1)]) hx hb dX9_longer__9 rfl hl (by decide) rfl (fun ls hl => ?_)
  have L10 : ∀ (N : Nat) (fq_5 : Nat → Option Nat) (v3_5 : Int32) (H_5 : Heap) (locs_5 : List Loc), jSt (dC, dI) B base G0 G0 EX9_longer_ s.heap (0 + 1) (0 + nq_3) [] [] [] H_5 locs_5 → va_at (dC, dI) vwCl (s.heap.size, .inl (ca 8, nq_3, .inr (.inr (.inr (.inr fq_5))))) H_5 → jKe G0 G0 s.heap H_5 → (0 ≤ v3_5.toInt ∧ v3_5.toInt ≤ n0 ∧ jFq G0 fq_5 v3_5.toInt) → (n0 - v3_5.toInt : Int) < N → ∀ ls : Array Slot, lv_has ls 4 [(0, .ref r0), (1, .ref r1), (2, .ref s.heap.size), (3, .int v3_5)] → W p l e R s m ([.ref r0, .ref r1] : List Value).toArray below meth c H_5 locs_5 (0 + 1) (0 + nq_3) Q (F0 m 10 ls []) := by
    intro N
    induction N with
    | zero => intro fq_5 v3_5 H_5 locs_5 hh_5 hraw_5 hkp_5 hi_5 hm; exact absurd hm (by omega)
    | succ N L10 =>
      intro fq_5 v3_5 H_5 locs_5 hh_5 hraw_5 hkp_5 hi_5 hm_5 ls hl
      obtain ⟨hi_5_0, hi_5_1, hi_5_2⟩ := hi_5
      refine lv_iload_n hx hb dX9_longer__10 rfl (lv_at hl 3 rfl) ?_
      refine lv_aload_n hx hb dX9_longer__11 rfl (lv_at hl 0 rfl) ?_
      refine j7_qlen hx hb hK5.1 hh_5 hB313 0 rfl (by decide) hg_r0 (by omega) dX9_longer__12 (fun z_6 hz_6 => ?_)
      refine lv_icmp_ge (tgt := 28) hx hb dX9_longer__13 (by decide) (fun c_7 => ?_) (fun c_7 => ?_)
      · skip
        have c_7' : v3_5.toInt ≥ z_6.toInt := jb_ge (rfl) (rfl) c_7
        refine lv_aload_n hx hb dX9_longer__28 rfl (lv_at hl 2 rfl) ?_
        refine lv_aload_n hx hb dX9_longer__29 rfl (lv_at hl 0 rfl) ?_
        refine j7_qlen hx hb hK5.1 hh_5 hB313 0 rfl (by decide) hg_r0 (by omega) dX9_longer__30 (fun z_8 hz_8 => ?_)
        refine lv_aload_n hx hb dX9_longer__31 rfl (lv_at hl 1 rfl) ?_
        refine j7_qastA hx hb hK5 hh_5 hB hraw_5 hnr_3 hbr_3 (x := z_8.toInt) (rfl) (by omega) hB280 (by decide) hg_r1 dX9_longer__32 (fun H_9 locs_9 hraw_9 hr_9 hh_9 => ?_)
        have hkp_10 := hkp_5.st hsy_3 hr_9
        clear hr_9
        clear hh_5
        refine lv_aload_n hx hb dX9_longer__33 rfl (lv_at hl 2 rfl) ?_
        have hsz_11 := hh_9.2.2.2.2.2.1
        have htt_11 := hh_9.2.2.2.2.2.2.1
        refine W.room (fun hrc_11 hrs_11 => ?_)
        refine W.widen (k := LC - s.heap.size) (n := LS - jTot s.heap) (by omega) (by omega) ?_
        rw [hQ]
        have hle_12 : jLe G0 (va_up G0 s.heap.size (some (313, nq_3))) := jLe.typ hnr_3
        have hh_12 := hh_9.typ (k := 313) (n := nq_3) hB hnr_3 hbr_3 hraw_9.lt (jAq.of hB313 hraw_9 ((hi_5_2.put (i1 := v3_5.toInt + 1) (by omega) rfl (by omega) hg_r1 (by omega)).all (by omega) hle_12))
        have hgn_12 : (va_up G0 s.heap.size (some (313, nq_3))) s.heap.size = some (313, nq_3) := jUp_self
        have hN_12 : (jNk [0, 1, 2, 3, 4, 5, 6, 7, 8, 9, 10, 11, 12, 13, 14, 15, 16]) G0 (va_up G0 s.heap.size (some (313, nq_3))) := jNk.new (by decide)
        have hNn_12 : (jNk [0, 1, 2, 3, 4, 5, 6, 7, 8, 9, 10, 11, 12, 13, 14, 15, 16]) G0 (va_up G0 s.heap.size (some (313, nq_3))) := (jNk.rf).tr hN_12
        have hkp_13 := hkp_10.typn (t := some (313, nq_3)) hsy_3
        exact W.aret (v := .ref s.heap.size) hx hb hr (Or.inr ⟨_, rfl⟩) (Or.inr ⟨_, rfl⟩) (fun t ht hW => ⟨⟨.ref s.heap.size, (nq_3, (va_up G0 s.heap.size (some (313, nq_3)))), rfl, ⟨⟨_, rfl, hgn_12⟩, ⟨_, rfl, hsy_3⟩, by (try dsimp only); first | omega | rfl | assumption | fail⟩, ⟨hh_12.ra (by first | omega | (simp only; omega)) (by first | omega | (simp only; omega)) (M1 := []) [] rfl ht, hNn_12, by rw [ht]; exact hkp_13⟩⟩, by rw [ht]; try exact hh_12.1.1, fun q h9 hq => by rw [ht]; try exact hh_12.1.2.1 q h9 hq⟩) hh_12.1.2.2 dX9_longer__34
      · skip
        have c_7' : v3_5.toInt < z_6.toInt := jb_ge_n (rfl) (rfl) c_7
        refine lv_aload_n hx hb dX9_longer__16 rfl (lv_at hl 2 rfl) ?_
        refine lv_iload_n hx hb dX9_longer__17 rfl (lv_at hl 3 rfl) ?_
        refine lv_aload_n hx hb dX9_longer__18 rfl (lv_at hl 0 rfl) ?_
        refine lv_iload_n hx hb dX9_longer__19 rfl (lv_at hl 3 rfl) ?_
        refine j7_qaldA hx hb hK5 hh_5 hB313 (by decide) hg_r0 (x := v3_5.toInt) (rfl) (by omega) dX9_longer__20 (fun o_14 ho_14 => ?_)
        obtain ⟨el_15, nel_15, rfl, hg_el_15, hn_el_15⟩ := ho_14
        simp only [va_rf]
        refine j7_qastA hx hb hK5 hh_5 hB hraw_5 hnr_3 hbr_3 (x := v3_5.toInt) (rfl) (by omega) hB280 (by decide) hg_el_15 dX9_longer__21 (fun H_16 locs_16 hraw_16 hr_16 hh_16 => ?_)
        have hkp_17 := hkp_5.st hsy_3 hr_16
        clear hr_16
        clear hh_5
        obtain ⟨z_18, ez_18⟩ : ∃ y : Int32, y = v3_5 + 1 := ⟨_, rfl⟩
        refine lv_iinc (v := z_18) (lv' := [(3, .int z_18), (0, .ref r0), (1, .ref r1), (2, .ref s.heap.size)]) hx hb dX9_longer__22 hl (k := 3) rfl (by rw [ez_18]; rfl) (by decide) rfl (fun ls hl => ?_)
        have hz_18 : z_18.toInt = v3_5.toInt + 1 := by rw [ez_18]; exact jb_iadd2 (rfl) (by decide) (by omega)
        refine lv_goto (tgt := 10) hx hb dX9_longer__25 (by decide) ?_
        refine W.tight (c2 := (0 + 1)) (n2 := (0 + nq_3)) hh_16.2.2.2.2.2.1 hh_16.2.2.2.2.2.2.1 ?_
        exact L10 (va_up fq_5 (v3_5.toInt).toNat (some el_15)) z_18 _ _ hh_16 (hraw_16) (hkp_17) (by refine ⟨by omega, by omega, ?_⟩; exact hi_5_2.put rfl (by omega) (by omega) (by assumption) (by assumption)) (by omega) _ (lv_sub hl [1, 2, 3, 0] rfl)
  refine W.tight (c2 := (0 + 1)) (n2 := (0 + nq_3)) hh_3.2.2.2.2.2.1 hh_3.2.2.2.2.2.2.1 ?_
  exact L10 (n0 - (0 : Int32).toInt : Int).toNat.succ (fun _ => none) 0 _ _ hh_3 (hraw_3) (hkp_4) (by refine ⟨by omega, by omega, jFq.zero (by omega)⟩) (by omega) _ (lv_sub hl [2, 3, 1, 0] rfl)
end
