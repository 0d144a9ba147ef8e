theorem dX4_value_0 : decode cX4_value 0 = .ok (.aload_n 0, 1) := by decide +kernel
theorem dX4_value_1 : decode cX4_value 1 = .ok (.invokevirtual 89, 3) := by decide +kernel
theorem dX4_value_4 : decode cX4_value 4 = .ok (.istore_n 2, 1) := by decide +kernel
theorem dX4_value_5 : decode cX4_value 5 = .ok (.iload_n 2, 1) := by decide +kernel
theorem dX4_value_6 : decode cX4_value 6 = .ok (.bipush 123, 2) := by decide +kernel
theorem dX4_value_8 : decode cX4_value 8 = .ok (.if_icmp .eq 9, 3) := by decide +kernel
theorem dX4_value_11 : decode cX4_value 11 = .ok (.iload_n 2, 1) := by decide +kernel
theorem dX4_value_12 : decode cX4_value 12 = .ok (.bipush 91, 2) := by decide +kernel
theorem dX4_value_14 : decode cX4_value 14 = .ok (.if_icmp .ne 32, 3) := by decide +kernel
theorem dX4_value_17 : decode cX4_value 17 = .ok (.iload_n 1, 1) := by decide +kernel
theorem dX4_value_18 : decode cX4_value 18 = .ok (.bipush 10, 2) := by decide +kernel
theorem dX4_value_20 : decode cX4_value 20 = .ok (.if_icmp .ge 24, 3) := by decide +kernel
theorem dX4_value_23 : decode cX4_value 23 = .ok (.aload_n 0, 1) := by decide +kernel
theorem dX4_value_24 : decode cX4_value 24 = .ok (.iload_n 1, 1) := by decide +kernel
theorem dX4_value_25 : decode cX4_value 25 = .ok (.iconst 1, 1) := by decide +kernel
theorem dX4_value_26 : decode cX4_value 26 = .ok (.iadd, 1) := by decide +kernel
theorem dX4_value_27 : decode cX4_value 27 = .ok (.iload_n 2, 1) := by decide +kernel
theorem dX4_value_28 : decode cX4_value 28 = .ok (.bipush 123, 2) := by decide +kernel
theorem dX4_value_30 : decode cX4_value 30 = .ok (.if_icmp .ne 7, 3) := by decide +kernel
theorem dX4_value_33 : decode cX4_value 33 = .ok (.iconst 1, 1) := by decide +kernel
theorem dX4_value_34 : decode cX4_value 34 = .ok (.goto 4, 3) := by decide +kernel
theorem dX4_value_37 : decode cX4_value 37 = .ok (.iconst 0, 1) := by decide +kernel
theorem dX4_value_38 : decode cX4_value 38 = .ok (.invokevirtual 96, 3) := by decide +kernel
theorem dX4_value_41 : decode cX4_value 41 = .ok (.goto 4, 3) := by decide +kernel
theorem dX4_value_44 : decode cX4_value 44 = .ok (.iconst (-1), 1) := by decide +kernel
theorem dX4_value_45 : decode cX4_value 45 = .ok (.ireturn, 1) := by decide +kernel
theorem dX4_value_46 : decode cX4_value 46 = .ok (.iload_n 2, 1) := by decide +kernel
theorem dX4_value_47 : decode cX4_value 47 = .ok (.bipush 34, 2) := by decide +kernel
theorem dX4_value_49 : decode cX4_value 49 = .ok (.if_icmp .ne 32, 3) := by decide +kernel
theorem dX4_value_52 : decode cX4_value 52 = .ok (.aload_n 0, 1) := by decide +kernel
theorem dX4_value_53 : decode cX4_value 53 = .ok (.getfield 53, 3) := by decide +kernel
theorem dX4_value_56 : decode cX4_value 56 = .ok (.istore_n 3, 1) := by decide +kernel
theorem dX4_value_57 : decode cX4_value 57 = .ok (.aload_n 0, 1) := by decide +kernel
theorem dX4_value_58 : decode cX4_value 58 = .ok (.invokevirtual 100, 3) := by decide +kernel
theorem dX4_value_61 : decode cX4_value 61 = .ok (.ifCond .eq 18, 3) := by decide +kernel
theorem dX4_value_64 : decode cX4_value 64 = .ok (.aload_n 0, 1) := by decide +kernel
theorem dX4_value_65 : decode cX4_value 65 = .ok (.iconst 3, 1) := by decide +kernel
theorem dX4_value_66 : decode cX4_value 66 = .ok (.iload_n 3, 1) := by decide +kernel
theorem dX4_value_67 : decode cX4_value 67 = .ok (.aload_n 0, 1) := by decide +kernel
theorem dX4_value_68 : decode cX4_value 68 = .ok (.getfield 53, 3) := by decide +kernel
theorem dX4_value_71 : decode cX4_value 71 = .ok (.iload_n 3, 1) := by decide +kernel
theorem dX4_value_72 : decode cX4_value 72 = .ok (.isub, 1) := by decide +kernel
theorem dX4_value_73 : decode cX4_value 73 = .ok (.invokevirtual 104, 3) := by decide +kernel
theorem dX4_value_76 : decode cX4_value 76 = .ok (.goto 4, 3) := by decide +kernel
theorem dX4_value_79 : decode cX4_value 79 = .ok (.iconst (-1), 1) := by decide +kernel
theorem dX4_value_80 : decode cX4_value 80 = .ok (.ireturn, 1) := by decide +kernel
theorem dX4_value_81 : decode cX4_value 81 = .ok (.iload_n 2, 1) := by decide +kernel
theorem dX4_value_82 : decode cX4_value 82 = .ok (.bipush 45, 2) := by decide +kernel
theorem dX4_value_84 : decode cX4_value 84 = .ok (.if_icmp .eq 10, 3) := by decide +kernel
theorem dX4_value_87 : decode cX4_value 87 = .ok (.iload_n 2, 1) := by decide +kernel
theorem dX4_value_88 : decode cX4_value 88 = .ok (.invokestatic 108, 3) := by decide +kernel
theorem dX4_value_91 : decode cX4_value 91 = .ok (.ifCond .eq 8, 3) := by decide +kernel
theorem dX4_value_94 : decode cX4_value 94 = .ok (.aload_n 0, 1) := by decide +kernel
theorem dX4_value_95 : decode cX4_value 95 = .ok (.invokevirtual 111, 3) := by decide +kernel
theorem dX4_value_98 : decode cX4_value 98 = .ok (.ireturn, 1) := by decide +kernel
theorem dX4_value_99 : decode cX4_value 99 = .ok (.aload_n 0, 1) := by decide +kernel
theorem dX4_value_100 : decode cX4_value 100 = .ok (.ldc 114, 2) := by decide +kernel
theorem dX4_value_102 : decode cX4_value 102 = .ok (.invokevirtual 116, 3) := by decide +kernel
theorem dX4_value_105 : decode cX4_value 105 = .ok (.ifCond .ne 21, 3) := by decide +kernel
theorem dX4_value_108 : decode cX4_value 108 = .ok (.aload_n 0, 1) := by decide +kernel
theorem dX4_value_109 : decode cX4_value 109 = .ok (.ldc 120, 2) := by decide +kernel
theorem dX4_value_111 : decode cX4_value 111 = .ok (.invokevirtual 116, 3) := by decide +kernel
theorem dX4_value_114 : decode cX4_value 114 = .ok (.ifCond .ne 12, 3) := by decide +kernel
theorem dX4_value_117 : decode cX4_value 117 = .ok (.aload_n 0, 1) := by decide +kernel
theorem dX4_value_118 : decode cX4_value 118 = .ok (.ldc 122, 2) := by decide +kernel
theorem dX4_value_120 : decode cX4_value 120 = .ok (.invokevirtual 116, 3) := by decide +kernel
theorem dX4_value_123 : decode cX4_value 123 = .ok (.ifCond .eq 7, 3) := by decide +kernel
theorem dX4_value_126 : decode cX4_value 126 = .ok (.iconst 1, 1) := by decide +kernel
theorem dX4_value_127 : decode cX4_value 127 = .ok (.goto 4, 3) := by decide +kernel
theorem dX4_value_130 : decode cX4_value 130 = .ok (.iconst 0, 1) := by decide +kernel
theorem dX4_value_131 : decode cX4_value 131 = .ok (.istore_n 3, 1) := by decide +kernel
theorem dX4_value_132 : decode cX4_value 132 = .ok (.iload_n 3, 1) := by decide +kernel
theorem dX4_value_133 : decode cX4_value 133 = .ok (.ifCond .eq 13, 3) := by decide +kernel
theorem dX4_value_136 : decode cX4_value 136 = .ok (.aload_n 0, 1) := by decide +kernel
theorem dX4_value_137 : decode cX4_value 137 = .ok (.iconst 5, 1) := by decide +kernel
theorem dX4_value_138 : decode cX4_value 138 = .ok (.iconst 0, 1) := by decide +kernel
theorem dX4_value_139 : decode cX4_value 139 = .ok (.iconst 0, 1) := by decide +kernel
theorem dX4_value_140 : decode cX4_value 140 = .ok (.invokevirtual 104, 3) := by decide +kernel
theorem dX4_value_143 : decode cX4_value 143 = .ok (.goto 4, 3) := by decide +kernel
theorem dX4_value_146 : decode cX4_value 146 = .ok (.iconst (-1), 1) := by decide +kernel
theorem dX4_value_147 : decode cX4_value 147 = .ok (.ireturn, 1) := by decide +kernel
theorem dX4_holder_0 : decode cX4_holder 0 = .ok (.aload_n 0, 1) := by decide +kernel
theorem dX4_holder_1 : decode cX4_holder 1 = .ok (.iload_n 2, 1) := by decide +kernel
theorem dX4_holder_2 : decode cX4_holder 2 = .ok (.ifCond .eq 7, 3) := by decide +kernel
theorem dX4_holder_5 : decode cX4_holder 5 = .ok (.iconst 1, 1) := by decide +kernel
theorem dX4_holder_6 : decode cX4_holder 6 = .ok (.goto 4, 3) := by decide +kernel
theorem dX4_holder_9 : decode cX4_holder 9 = .ok (.iconst 2, 1) := by decide +kernel
theorem dX4_holder_10 : decode cX4_holder 10 = .ok (.iconst (-1), 1) := by decide +kernel
theorem dX4_holder_11 : decode cX4_holder 11 = .ok (.iconst 0, 1) := by decide +kernel
theorem dX4_holder_12 : decode cX4_holder 12 = .ok (.invokevirtual 104, 3) := by decide +kernel
theorem dX4_holder_15 : decode cX4_holder 15 = .ok (.istore_n 3, 1) := by decide +kernel
theorem dX4_holder_16 : decode cX4_holder 16 = .ok (.iload_n 2, 1) := by decide +kernel
theorem dX4_holder_17 : decode cX4_holder 17 = .ok (.ifCond .eq 8, 3) := by decide +kernel
theorem dX4_holder_20 : decode cX4_holder 20 = .ok (.bipush 125, 2) := by decide +kernel
theorem dX4_holder_22 : decode cX4_holder 22 = .ok (.goto 5, 3) := by decide +kernel
theorem dX4_holder_25 : decode cX4_holder 25 = .ok (.bipush 93, 2) := by decide +kernel
theorem dX4_holder_27 : decode cX4_holder 27 = .ok (.istore 4, 2) := by decide +kernel
theorem dX4_holder_29 : decode cX4_holder 29 = .ok (.aload_n 0, 1) := by decide +kernel
theorem dX4_holder_30 : decode cX4_holder 30 = .ok (.dup, 1) := by decide +kernel
theorem dX4_holder_31 : decode cX4_holder 31 = .ok (.getfield 47, 3) := by decide +kernel
theorem dX4_holder_34 : decode cX4_holder 34 = .ok (.iconst 1, 1) := by decide +kernel
theorem dX4_holder_35 : decode cX4_holder 35 = .ok (.iadd, 1) := by decide +kernel
theorem dX4_holder_36 : decode cX4_holder 36 = .ok (.putfield 47, 3) := by decide +kernel
theorem dX4_holder_39 : decode cX4_holder 39 = .ok (.aload_n 0, 1) := by decide +kernel
theorem dX4_holder_40 : decode cX4_holder 40 = .ok (.invokevirtual 56, 3) := by decide +kernel
theorem dX4_holder_43 : decode cX4_holder 43 = .ok (.aload_n 0, 1) := by decide +kernel
theorem dX4_holder_44 : decode cX4_holder 44 = .ok (.invokevirtual 89, 3) := by decide +kernel
theorem dX4_holder_47 : decode cX4_holder 47 = .ok (.iload 4, 2) := by decide +kernel
theorem dX4_holder_49 : decode cX4_holder 49 = .ok (.if_icmp .ne 15, 3) := by decide +kernel
theorem dX4_holder_52 : decode cX4_holder 52 = .ok (.aload_n 0, 1) := by decide +kernel
theorem dX4_holder_53 : decode cX4_holder 53 = .ok (.dup, 1) := by decide +kernel
theorem dX4_holder_54 : decode cX4_holder 54 = .ok (.getfield 47, 3) := by decide +kernel
theorem dX4_holder_57 : decode cX4_holder 57 = .ok (.iconst 1, 1) := by decide +kernel
theorem dX4_holder_58 : decode cX4_holder 58 = .ok (.iadd, 1) := by decide +kernel
theorem dX4_holder_59 : decode cX4_holder 59 = .ok (.putfield 47, 3) := by decide +kernel
theorem dX4_holder_62 : decode cX4_holder 62 = .ok (.iload_n 3, 1) := by decide +kernel
theorem dX4_holder_63 : decode cX4_holder 63 = .ok (.ireturn, 1) := by decide +kernel
theorem dX4_holder_64 : decode cX4_holder 64 = .ok (.iconst (-1), 1) := by decide +kernel
theorem dX4_holder_65 : decode cX4_holder 65 = .ok (.istore 5, 2) := by decide +kernel
theorem dX4_holder_67 : decode cX4_holder 67 = .ok (.iconst 0, 1) := by decide +kernel
theorem dX4_holder_68 : decode cX4_holder 68 = .ok (.istore 6, 2) := by decide +kernel
theorem dX4_holder_70 : decode cX4_holder 70 = .ok (.iload 6, 2) := by decide +kernel
theorem dX4_holder_72 : decode cX4_holder 72 = .ok (.sipush 1502, 3) := by decide +kernel
theorem dX4_holder_75 : decode cX4_holder 75 = .ok (.if_icmp .ge 169, 3) := by decide +kernel
theorem dX4_holder_78 : decode cX4_holder 78 = .ok (.iload_n 3, 1) := by decide +kernel
theorem dX4_holder_79 : decode cX4_holder 79 = .ok (.ifCond .lt 165, 3) := by decide +kernel
theorem dX4_holder_82 : decode cX4_holder 82 = .ok (.aload_n 0, 1) := by decide +kernel
theorem dX4_holder_83 : decode cX4_holder 83 = .ok (.getfield 53, 3) := by decide +kernel
theorem dX4_holder_86 : decode cX4_holder 86 = .ok (.istore 7, 2) := by decide +kernel
theorem dX4_holder_88 : decode cX4_holder 88 = .ok (.iload_n 2, 1) := by decide +kernel
theorem dX4_holder_89 : decode cX4_holder 89 = .ok (.ifCond .eq 12, 3) := by decide +kernel
theorem dX4_holder_92 : decode cX4_holder 92 = .ok (.aload_n 0, 1) := by decide +kernel
theorem dX4_holder_93 : decode cX4_holder 93 = .ok (.invokevirtual 100, 3) := by decide +kernel
theorem dX4_holder_96 : decode cX4_holder 96 = .ok (.ifCond .ne 5, 3) := by decide +kernel
theorem dX4_holder_99 : decode cX4_holder 99 = .ok (.iconst (-1), 1) := by decide +kernel
theorem dX4_holder_100 : decode cX4_holder 100 = .ok (.ireturn, 1) := by decide +kernel
theorem dX4_holder_101 : decode cX4_holder 101 = .ok (.aload_n 0, 1) := by decide +kernel
theorem dX4_holder_102 : decode cX4_holder 102 = .ok (.getfield 53, 3) := by decide +kernel
theorem dX4_holder_105 : decode cX4_holder 105 = .ok (.iload 7, 2) := by decide +kernel
theorem dX4_holder_107 : decode cX4_holder 107 = .ok (.isub, 1) := by decide +kernel
theorem dX4_holder_108 : decode cX4_holder 108 = .ok (.istore 8, 2) := by decide +kernel
theorem dX4_holder_110 : decode cX4_holder 110 = .ok (.iload_n 2, 1) := by decide +kernel
theorem dX4_holder_111 : decode cX4_holder 111 = .ok (.ifCond .eq 12, 3) := by decide +kernel
theorem dX4_holder_114 : decode cX4_holder 114 = .ok (.aload_n 0, 1) := by decide +kernel
theorem dX4_holder_115 : decode cX4_holder 115 = .ok (.invokevirtual 124, 3) := by decide +kernel
theorem dX4_holder_118 : decode cX4_holder 118 = .ok (.ifCond .ne 5, 3) := by decide +kernel
theorem dX4_holder_121 : decode cX4_holder 121 = .ok (.iconst (-1), 1) := by decide +kernel
theorem dX4_holder_122 : decode cX4_holder 122 = .ok (.ireturn, 1) := by decide +kernel
theorem dX4_holder_123 : decode cX4_holder 123 = .ok (.aload_n 0, 1) := by decide +kernel
theorem dX4_holder_124 : decode cX4_holder 124 = .ok (.iload_n 1, 1) := by decide +kernel
theorem dX4_holder_125 : decode cX4_holder 125 = .ok (.invokevirtual 59, 3) := by decide +kernel
theorem dX4_holder_128 : decode cX4_holder 128 = .ok (.istore 9, 2) := by decide +kernel
theorem dX4_holder_130 : decode cX4_holder 130 = .ok (.iload 9, 2) := by decide +kernel
theorem dX4_holder_132 : decode cX4_holder 132 = .ok (.ifCond .ge 5, 3) := by decide +kernel
theorem dX4_holder_135 : decode cX4_holder 135 = .ok (.iconst (-1), 1) := by decide +kernel
theorem dX4_holder_136 : decode cX4_holder 136 = .ok (.ireturn, 1) := by decide +kernel
theorem dX4_holder_137 : decode cX4_holder 137 = .ok (.aload_n 0, 1) := by decide +kernel
theorem dX4_holder_138 : decode cX4_holder 138 = .ok (.getfield 24, 3) := by decide +kernel
theorem dX4_holder_141 : decode cX4_holder 141 = .ok (.iload 9, 2) := by decide +kernel
theorem dX4_holder_143 : decode cX4_holder 143 = .ok (.iload 7, 2) := by decide +kernel
theorem dX4_holder_145 : decode cX4_holder 145 = .ok (.iastore, 1) := by decide +kernel
theorem dX4_holder_146 : decode cX4_holder 146 = .ok (.aload_n 0, 1) := by decide +kernel
theorem dX4_holder_147 : decode cX4_holder 147 = .ok (.getfield 27, 3) := by decide +kernel
theorem dX4_holder_150 : decode cX4_holder 150 = .ok (.iload 9, 2) := by decide +kernel
theorem dX4_holder_152 : decode cX4_holder 152 = .ok (.iload 8, 2) := by decide +kernel
theorem dX4_holder_154 : decode cX4_holder 154 = .ok (.iastore, 1) := by decide +kernel
theorem dX4_holder_155 : decode cX4_holder 155 = .ok (.iload 5, 2) := by decide +kernel
theorem dX4_holder_157 : decode cX4_holder 157 = .ok (.ifCond .ge 14, 3) := by decide +kernel
theorem dX4_holder_160 : decode cX4_holder 160 = .ok (.aload_n 0, 1) := by decide +kernel
theorem dX4_holder_161 : decode cX4_holder 161 = .ok (.getfield 15, 3) := by decide +kernel
theorem dX4_holder_164 : decode cX4_holder 164 = .ok (.iload_n 3, 1) := by decide +kernel
theorem dX4_holder_165 : decode cX4_holder 165 = .ok (.iload 9, 2) := by decide +kernel
theorem dX4_holder_167 : decode cX4_holder 167 = .ok (.iastore, 1) := by decide +kernel
theorem dX4_holder_168 : decode cX4_holder 168 = .ok (.goto 12, 3) := by decide +kernel
theorem dX4_holder_171 : decode cX4_holder 171 = .ok (.aload_n 0, 1) := by decide +kernel
theorem dX4_holder_172 : decode cX4_holder 172 = .ok (.getfield 21, 3) := by decide +kernel
theorem dX4_holder_175 : decode cX4_holder 175 = .ok (.iload 5, 2) := by decide +kernel
theorem dX4_holder_177 : decode cX4_holder 177 = .ok (.iload 9, 2) := by decide +kernel
theorem dX4_holder_179 : decode cX4_holder 179 = .ok (.iastore, 1) := by decide +kernel
theorem dX4_holder_180 : decode cX4_holder 180 = .ok (.iload 9, 2) := by decide +kernel
theorem dX4_holder_182 : decode cX4_holder 182 = .ok (.istore 5, 2) := by decide +kernel
theorem dX4_holder_184 : decode cX4_holder 184 = .ok (.aload_n 0, 1) := by decide +kernel
theorem dX4_holder_185 : decode cX4_holder 185 = .ok (.getfield 18, 3) := by decide +kernel
theorem dX4_holder_188 : decode cX4_holder 188 = .ok (.iload_n 3, 1) := by decide +kernel
theorem dX4_holder_189 : decode cX4_holder 189 = .ok (.dup2, 1) := by decide +kernel
theorem dX4_holder_190 : decode cX4_holder 190 = .ok (.iaload, 1) := by decide +kernel
theorem dX4_holder_191 : decode cX4_holder 191 = .ok (.iconst 1, 1) := by decide +kernel
theorem dX4_holder_192 : decode cX4_holder 192 = .ok (.iadd, 1) := by decide +kernel
theorem dX4_holder_193 : decode cX4_holder 193 = .ok (.iastore, 1) := by decide +kernel
theorem dX4_holder_194 : decode cX4_holder 194 = .ok (.aload_n 0, 1) := by decide +kernel
theorem dX4_holder_195 : decode cX4_holder 195 = .ok (.invokevirtual 56, 3) := by decide +kernel
theorem dX4_holder_198 : decode cX4_holder 198 = .ok (.aload_n 0, 1) := by decide +kernel
theorem dX4_holder_199 : decode cX4_holder 199 = .ok (.invokevirtual 89, 3) := by decide +kernel
theorem dX4_holder_202 : decode cX4_holder 202 = .ok (.istore 10, 2) := by decide +kernel
theorem dX4_holder_204 : decode cX4_holder 204 = .ok (.aload_n 0, 1) := by decide +kernel
theorem dX4_holder_205 : decode cX4_holder 205 = .ok (.dup, 1) := by decide +kernel
theorem dX4_holder_206 : decode cX4_holder 206 = .ok (.getfield 47, 3) := by decide +kernel
theorem dX4_holder_209 : decode cX4_holder 209 = .ok (.iconst 1, 1) := by decide +kernel
theorem dX4_holder_210 : decode cX4_holder 210 = .ok (.iadd, 1) := by decide +kernel
theorem dX4_holder_211 : decode cX4_holder 211 = .ok (.putfield 47, 3) := by decide +kernel
theorem dX4_holder_214 : decode cX4_holder 214 = .ok (.iload 10, 2) := by decide +kernel
theorem dX4_holder_216 : decode cX4_holder 216 = .ok (.bipush 44, 2) := by decide +kernel
theorem dX4_holder_218 : decode cX4_holder 218 = .ok (.if_icmp .eq 16, 3) := by decide +kernel
theorem dX4_holder_221 : decode cX4_holder 221 = .ok (.iload 10, 2) := by decide +kernel
theorem dX4_holder_223 : decode cX4_holder 223 = .ok (.iload 4, 2) := by decide +kernel
theorem dX4_holder_225 : decode cX4_holder 225 = .ok (.if_icmp .ne 7, 3) := by decide +kernel
theorem dX4_holder_228 : decode cX4_holder 228 = .ok (.iload_n 3, 1) := by decide +kernel
theorem dX4_holder_229 : decode cX4_holder 229 = .ok (.goto 4, 3) := by decide +kernel
theorem dX4_holder_232 : decode cX4_holder 232 = .ok (.iconst (-1), 1) := by decide +kernel
theorem dX4_holder_233 : decode cX4_holder 233 = .ok (.ireturn, 1) := by decide +kernel
theorem dX4_holder_234 : decode cX4_holder 234 = .ok (.aload_n 0, 1) := by decide +kernel
theorem dX4_holder_235 : decode cX4_holder 235 = .ok (.invokevirtual 56, 3) := by decide +kernel
theorem dX4_holder_238 : decode cX4_holder 238 = .ok (.iinc 6 1, 3) := by decide +kernel
theorem dX4_holder_241 : decode cX4_holder 241 = .ok (.goto (-171), 3) := by decide +kernel
theorem dX4_holder_244 : decode cX4_holder 244 = .ok (.iconst (-1), 1) := by decide +kernel
theorem dX4_holder_245 : decode cX4_holder 245 = .ok (.ireturn, 1) := by decide +kernel
def EX4_value : List (Nat × Nat) := [(6, 7), (6, 8), (6, 11), (140, 0), (141, 0), (142, 0), (143, 0), (144, 0), (145, 0), (146, 0)]
def EX4_holder : List (Nat × Nat) := [(6, 7), (6, 8), (6, 11), (140, 0), (141, 0), (142, 0), (143, 0), (144, 0), (145, 0), (146, 0)]
def qX4_value (l : Launch) (dC : Nat → ClassId) (dI : Nat → Nat → Nat) (ca : Nat → ClassId) (base : Nat) (B : jF) (ef : Nat) : Prop := ∀ (G0 : jT) (H0 : Heap) (r0 : Nat) (a1 : Int32) (rb : Nat) (n_rb : Nat) (pe : Int32) (pt : Int32), Met l yX4_value (jw yX4_value cX4_value 4 (some .int)) ({ frames := 2 * ef + 8, cells := 0, slots := 0, locals := 130 * ef + 500 }) (va_Pc [.ref r0, .int a1] (fun U => U.heap = H0 ∧ jX B base G0 [] H0 ∧ jG dC dI ca base U ∧ G0 r0 = some (6, 0) ∧ G0 rb = some (100, n_rb) ∧ jP (dC, dI) G0 H0 [(r0, 6, 9, .ref rb), (r0, 6, 10, .int pe), (r0, 6, 11, .int pt)] ∧ 0 ≤ pe.toInt ∧ pe.toInt ≤ n_rb ∧ n_rb ≤ 3000 ∧ 0 ≤ pt.toInt ∧ pt.toInt ≤ 19000 ∧ pt.toInt ≤ pe.toInt ∧ a1.toInt = 10 - ef ∧ ef ≤ 10)) (va_Qi (S := Int32) (fun r u => (-1 ≤ r.toInt ∧ r.toInt ≤ 1501 ∧ pt.toInt ≤ u.toInt ∧ u.toInt ≤ pe.toInt + 4 ∧ (r.toInt = -1 ∨ u.toInt ≤ pe.toInt))) (fun u t => jRt (dC, dI) B base G0 EX4_value H0 [(r0, 6, 11, .int u)] t.heap) (jA base)) 0 0 (jA base)
def qX4_holder (l : Launch) (dC : Nat → ClassId) (dI : Nat → Nat → Nat) (ca : Nat → ClassId) (base : Nat) (B : jF) (ef : Nat) : Prop := ∀ (G0 : jT) (H0 : Heap) (r0 : Nat) (a1 : Int32) (a2 : Int32) (rb : Nat) (n_rb : Nat) (pe : Int32) (pt : Int32), Met l yX4_holder (jw yX4_holder cX4_holder 11 (some .int)) ({ frames := 2 * ef + 9, cells := 0, slots := 0, locals := 130 * ef + 560 }) (va_Pc [.ref r0, .int a1, .int a2] (fun U => U.heap = H0 ∧ jX B base G0 [] H0 ∧ jG dC dI ca base U ∧ G0 r0 = some (6, 0) ∧ G0 rb = some (100, n_rb) ∧ jP (dC, dI) G0 H0 [(r0, 6, 9, .ref rb), (r0, 6, 10, .int pe), (r0, 6, 11, .int pt)] ∧ 0 ≤ pe.toInt ∧ pe.toInt ≤ n_rb ∧ n_rb ≤ 3000 ∧ 0 ≤ pt.toInt ∧ pt.toInt ≤ 19000 ∧ pt.toInt < pe.toInt ∧ a1.toInt = 10 - ef ∧ ef ≤ 10)) (va_Qi (S := Int32) (fun r u => (-1 ≤ r.toInt ∧ r.toInt ≤ 1501 ∧ pt.toInt ≤ u.toInt ∧ u.toInt ≤ pe.toInt + 4 ∧ (r.toInt = -1 ∨ u.toInt ≤ pe.toInt))) (fun u t => jRt (dC, dI) B base G0 EX4_holder H0 [(r0, 6, 11, .int u)] t.heap) (jA base)) 0 0 (jA base)
set_option maxHeartbeats 4000000 in
set_option maxRecDepth 20000 in
theorem uX4_value (l : Launch) (dC : Nat → ClassId) (dI : Nat → Nat → Nat) (ca : Nat → ClassId) (base : Nat) (B : jF) (hB : jBok B) (hAp : jAp (dC, dI)) (hB6 : ∀ n G a H, B 6 n G a H ↔ jOb (dC, dI) 6 12 (F6 n G) a H) (hB100 : ∀ n G a H, B 100 n G a H ↔ jAr (dC, dI) (ca 0) (fun j z => True) n a H) (hB140 : ∀ n G a H, B 140 n G a H ↔ jAr (dC, dI) (ca 1) (fun j z => True) n a H) (hB141 : ∀ n G a H, B 141 n G a H ↔ jAr (dC, dI) (ca 1) (fun j z => True) n a H) (hB142 : ∀ n G a H, B 142 n G a H ↔ jAr (dC, dI) (ca 1) (fun j z => True) n a H) (hB143 : ∀ n G a H, B 143 n G a H ↔ jAr (dC, dI) (ca 1) (fun j z => True) n a H) (hB144 : ∀ n G a H, B 144 n G a H ↔ jAr (dC, dI) (ca 1) (fun j z => 0 ≤ z.toInt ∧ z.toInt ≤ 3000) n a H) (hB145 : ∀ n G a H, B 145 n G a H ↔ jAr (dC, dI) (ca 1) (fun j z => True) n a H) (hB146 : ∀ n G a H, B 146 n G a H ↔ jAr (dC, dI) (ca 1) (fun j z => True) n a H) (ef : Nat) (ihM : ∀ e1, e1 < ef → qX4_holder l dC dI ca base B e1) (G0 : jT) (H0 : Heap) (r0 : Nat) (a1 : Int32) (rb : Nat) (n_rb : Nat) (pe : Int32) (pt : Int32) : Met l yX4_value (jw yX4_value cX4_value 4 (some .int)) ({ frames := 2 * ef + 8, cells := 0, slots := 0, locals := 130 * ef + 500 }) (va_Pc [.ref r0, .int a1] (fun U => U.heap = H0 ∧ jX B base G0 [] H0 ∧ jG dC dI ca base U ∧ G0 r0 = some (6, 0) ∧ G0 rb = some (100, n_rb) ∧ jP (dC, dI) G0 H0 [(r0, 6, 9, .ref rb), (r0, 6, 10, .int pe), (r0, 6, 11, .int pt)] ∧ 0 ≤ pe.toInt ∧ pe.toInt ≤ n_rb ∧ n_rb ≤ 3000 ∧ 0 ≤ pt.toInt ∧ pt.toInt ≤ 19000 ∧ pt.toInt ≤ pe.toInt ∧ a1.toInt = 10 - ef ∧ ef ≤ 10)) (va_Qi (S := Int32) (fun r u => (-1 ≤ r.toInt ∧ r.toInt ≤ 1501 ∧ pt.toInt ≤ u.toInt ∧ u.toInt ≤ pe.toInt + 4 ∧ (r.toInt = -1 ∨ u.toInt ≤ pe.toInt))) (fun u t => jRt (dC, dI) B base G0 EX4_value H0 [(r0, 6, 11, .int u)] t.heap) (jA base)) 0 0 (jA base) := by
  refine Met.ofW (cc := cX4_value) (maxL := 4) (ret := (some .int)) (by decide) rfl ?_
  intro p e s m args below meth c s₁ Bd hml hv
  obtain ⟨rfl, hH0, hX, hG, hg_r0, hg_rb, hP0, hp0, hp1, hp2, hp3, hp4, hp5, hp6, hp7⟩ := hv
  have hK := hG.1
  have hx := Bd.exec
  have hb := Bd.bytes
  have hr := Bd.returns
  have hts := atoms_spec (ws := (jw yX4_value cX4_value 4 (some .int))) Bd.pre
  have htw : ∀ w ∈ jWl, w.before _ s = true := fun w h => hts w (List.mem_cons_of_mem _ h)
  have hown : s.vm.findClass RX4 = some m.cls := findClass_of_methodNamed Bd.named
  have hlocks := Bd.notSynchronized
  obtain ⟨Q, hQ⟩ : ∃ Q, Q = MQ below (va_Qi (S := Int32) (fun r u => (-1 ≤ r.toInt ∧ r.toInt ≤ 1501 ∧ pt.toInt ≤ u.toInt ∧ u.toInt ≤ pe.toInt + 4 ∧ (r.toInt = -1 ∨ u.toInt ≤ pe.toInt))) (fun u t => jRt (dC, dI) B base G0 EX4_value H0 [(r0, 6, 11, .int u)] t.heap) (jA base)) ([.ref r0, .int a1] : List Value).toArray s 0 0 (jA base) := ⟨_, rfl⟩
  rw [← hQ]
  have hl := lv_entry ([.ref r0, .int a1]) (n := 4) (Nat.le_of_ble_eq_true rfl)
  rw [lg_entry_eq]
  generalize (lg_sl ([.ref r0, .int a1]) ++ List.replicate (4 - (lg_sl ([.ref r0, .int a1])).length) Slot.unset).toArray = ls at hl ⊢
  have hl : lv_has ls 4 [(0, .ref r0), (1, .int a1)] := hl
  generalize hR : (headSpec (jw yX4_value cX4_value 4 (some .int)) ({ frames := 2 * ef + 8, cells := 0, slots := 0, locals := 130 * ef + 500 })).room = R
  subst hH0
  have hh : jSt (dC, dI) B base G0 G0 EX4_value s.heap 0 0 [(r0, 6, 9, .ref rb), (r0, 6, 10, .int pe), (r0, 6, 11, .int pt)] [] [] s.heap [] := jSt.start hX hP0 jMc.nil jIs.nil
  clear hX hP0
  have hkm1 : ((-1) : Int32).toInt = (-1) := by decide
  have hk0 : (0 : Int32).toInt = 0 := by decide
  have hk1 : (1 : Int32).toInt = 1 := by decide
  have hk3 : (3 : Int32).toInt = 3 := by decide
  have hk5 : (5 : Int32).toInt = 5 := by decide
  have hk10 : (10 : Int32).toInt = 10 := by decide
  have hk34 : (34 : Int32).toInt = 34 := by decide
  have hk45 : (45 : Int32).toInt = 45 := by decide
  have hk91 : (91 : Int32).toInt = 91 := by decide
  have hk123 : (123 : Int32).toInt = 123 := by decide
  have hly_6_8 := htw (u_lay RX4 TX4 8) (jWc_wsX40 _ (u_in_lay (by decide)))
  have hlk_53 := (htw (.fieldLink RX4 53 "ProofServer$Json" "unitCount" "I") (jWr_19 _ (List.mem_of_getElem? (i := 14) rfl)))
  obtain ⟨str114, rstr114, hstr1140⟩ := hG.str (o := RX4) (k := 114) (tx := "true") (List.mem_of_getElem? (i := 727) (by decide +kernel))
  have hstr114 : jStr base str114 4 s s.heap := hstr1140
  obtain ⟨str120, rstr120, hstr1200⟩ := hG.str (o := RX4) (k := 120) (tx := "false") (List.mem_of_getElem? (i := 728) (by decide +kernel))
  have hstr120 : jStr base str120 5 s s.heap := hstr1200
  obtain ⟨str122, rstr122, hstr1220⟩ := hG.str (o := RX4) (k := 122) (tx := "null") (List.mem_of_getElem? (i := 729) (by decide +kernel))
  have hstr122 : jStr base str122 4 s s.heap := hstr1220
  have hrg_a1 := jb_rng a1
  refine lv_aload_n hx hb dX4_value_0 rfl (lv_at hl 0 rfl) ?_
  refine va_calli (A0 := jA base) (H0 := s.heap) (va_runV (As := []) (rest := []) ⟨hx, hb, hml, hown, hts⟩ (uX4_peek l dC dI ca base B hB hAp hB6 hB100 G0 s.heap r0 rb n_rb pe pt) (cwV 0 hts (jgV (jWr_19 _ (List.mem_of_getElem? (i := 19) rfl)) (jWr_19 _ (List.mem_of_getElem? (i := 20) rfl)) (jWr_19 _ (List.mem_of_getElem? (i := 21) rfl)) (jWr_1 _ (List.mem_of_getElem? (i := 22) rfl)) (jWr_19 _ (List.mem_of_getElem? (i := 22) rfl))) rfl rfl rfl (by decide +kernel) ⟨by rw [← hR]; show (0) + 1 ≤ 2 * ef + 8; omega, by rw [← hR]; show 8 + (1 + 11) + (0) ≤ 130 * ef + 500; omega⟩) ⟨fun a U g mk q => by obtain ⟨q0, q1, q2, qK, q10, q11, q12, q13⟩ := q; exact ⟨q0, q1, q2, jG.calling g mk a qK, q10, q11, q12, q13⟩, hh.recv (C := RX4) (T := TX4) (N := 12) hB6 rfl (by decide) hg_r0 hK, fun U hU hW => ⟨rfl, hU, hh.2.1, hG.step hW hU hh.1, hg_r0, hg_rb, (hh.2.2.1.sub (L1 := [(r0, 6, 9, .ref rb), (r0, 6, 10, .int pe), (r0, 6, 11, .int pt)]) [0, 1, 2] rfl), by first | omega | (refine ⟨?_, ?_, ?_, ?_, ?_⟩ <;> (first | omega | rfl | assumption | decide | exact Or.inl rfl | exact Or.inr rfl | (simp only; omega)))⟩⟩ rfl rfl hl.1 rfl (lv_room (Nat.le_of_ble_eq_true rfl)) dX4_value_1 ⟨Nat.zero_le _, Nat.zero_le _⟩) hh.1 (fun q _ h => h) (fun q h => h) (fun r_2 u_1 t_1 H_1 locs_1 ht_1 hvm_1 hr_2 hb_1 hz_1 hk_1 hS_1 => ?_)
  rw [ht_1] at hb_1
  obtain ⟨hb_11, hb_12, hb_13, hb_14, hb_15⟩ := hb_1
  have hh_1 : jSt (dC, dI) B base G0 G0 EX4_value s.heap 0 0 [(r0, 6, 9, .ref rb), (r0, 6, 10, .int pe), (r0, 6, 11, .int pt)] [] [] H_1 locs_1 := ((hh.call hb_11 hb_12 hb_13 hb_14 hS_1 rfl (L1 := [(r0, 6, 9, .ref rb), (r0, 6, 10, .int pe), (r0, 6, 11, .int pt)]) [0, 1, 2] rfl rfl (M1 := []) [] rfl rfl (I1 := []) [] rfl rfl).more hb_15)
  clear hh ht_1 hvm_1 hz_1 hk_1 hS_1 hb_11 hb_12 hb_13 hb_14 hb_15
  obtain ⟨hr_2_0, hr_2_1, hr_2_2⟩ := hr_2
  refine lv_istore_n (lv' := [(2, .int r_2), (0, .ref r0), (1, .int a1)]) hx hb dX4_value_4 rfl hl (by decide) rfl (fun ls hl => ?_)
  refine lv_iload_n hx hb dX4_value_5 rfl (lv_at hl 0 rfl) ?_
  refine lv_bipush (v := 123) hx hb dX4_value_6 (by decide) ?_
  refine lv_icmp_eq (tgt := 17) hx hb dX4_value_8 (by decide) (fun c_3 => ?_) (fun c_3 => ?_)
  · skip
    have c_3' : r_2.toInt = 123 := jb_eq (rfl) ((by decide)) c_3
    first | (have hr_2_2q := hr_2_2.resolve_left (by omega); clear hr_2_2) | (have hr_2_2q := hr_2_2.resolve_right (by omega); clear hr_2_2) | skip
    refine lv_iload_n hx hb dX4_value_17 rfl (lv_at hl 2 rfl) ?_
    refine lv_bipush (v := 10) hx hb dX4_value_18 (by decide) ?_
    refine lv_icmp_ge (tgt := 44) hx hb dX4_value_20 (by decide) (fun c_4 => ?_) (fun c_4 => ?_)
    · skip
      have c_4' : a1.toInt ≥ 10 := jb_ge (rfl) ((by decide)) c_4
      refine lv_iconst (v := (-1)) hx hb dX4_value_44 (by decide) ?_
      rw [hQ]
      exact W.iret (v := (-1)) hx hb hr (fun t ht hW => ⟨⟨(-1), pt, rfl, by first | omega | (refine ⟨?_, ?_, ?_, ?_, ?_⟩ <;> (first | omega | rfl | assumption | decide | exact Or.inl rfl | exact Or.inr rfl | (simp only; omega))), hh_1.rt (M1 := [(r0, 6, 11, .int pt)]) [2] rfl ht⟩, by rw [ht]; try exact hh_1.1.1, fun q h9 hq => by rw [ht]; try exact hh_1.1.2.1 q h9 hq⟩) hh_1.1.2.2 dX4_value_45
    · skip
      have c_4' : a1.toInt < 10 := jb_ge_n (rfl) ((by decide)) c_4
      refine lv_aload_n hx hb dX4_value_23 rfl (lv_at hl 1 rfl) ?_
      refine lv_iload_n hx hb dX4_value_24 rfl (lv_at hl 2 rfl) ?_
      refine lv_iconst (v := 1) hx hb dX4_value_25 (by decide) ?_
      refine lv_iadd hx hb dX4_value_26 ?_
      refine lv_topi (fun z_5 ez_5 => ?_)
      have hz_5 : z_5.toInt = a1.toInt + 1 := by rw [ez_5]; exact jb_iadd2 (rfl) ((by decide)) (by omega)
      refine lv_iload_n hx hb dX4_value_27 rfl (lv_at hl 0 rfl) ?_
      refine lv_bipush (v := 123) hx hb dX4_value_28 (by decide) ?_
      refine lv_icmp_ne (tgt := 37) hx hb dX4_value_30 (by decide) (fun c_6 => ?_) (fun c_6 => ?_)
      · skip
        have c_6' : r_2.toInt ≠ 123 := jb_ne (rfl) ((by decide)) c_6
        refine lv_iconst (v := 0) hx hb dX4_value_37 (by decide) ?_
        refine va_calli (A0 := jA base) (H0 := s.heap) (va_runV (As := [.int z_5, .int 0]) (rest := []) ⟨hx, hb, hml, hown, hts⟩ (ihM (ef - 1) (by omega) G0 H_1 r0 z_5 0 rb n_rb pe pt) (cwV 2 hts (jgV (jWr_20 _ (List.mem_of_getElem? (i := 5) rfl)) (jWr_20 _ (List.mem_of_getElem? (i := 6) rfl)) (jWr_20 _ (List.mem_of_getElem? (i := 7) rfl)) (jWr_1 _ (List.mem_of_getElem? (i := 22) rfl)) (jWr_23 _ (List.mem_of_getElem? (i := 5) rfl))) rfl rfl rfl (by decide +kernel) ⟨by rw [← hR]; show (2 * (ef - 1) + 9) + 1 ≤ 2 * ef + 8; omega, by rw [← hR]; show 8 + (11 + 11) + (130 * (ef - 1) + 560) ≤ 130 * ef + 500; omega⟩) ⟨fun a U g mk q => by obtain ⟨q0, q1, q2, qK, q10, q11, q12, q13⟩ := q; exact ⟨q0, q1, q2, jG.calling g mk a qK, q10, q11, q12, q13⟩, hh_1.recv (C := RX4) (T := TX4) (N := 12) hB6 rfl (by decide) hg_r0 hK, fun U hU hW => ⟨rfl, hU, hh_1.2.1, hG.step hW hU hh_1.1, hg_r0, hg_rb, (hh_1.2.2.1.sub (L1 := [(r0, 6, 9, .ref rb), (r0, 6, 10, .int pe), (r0, 6, 11, .int pt)]) [0, 1, 2] rfl), by first | omega | (refine ⟨?_, ?_, ?_, ?_, ?_, ?_, ?_, ?_⟩ <;> (first | omega | rfl | assumption | decide | exact Or.inl rfl | exact Or.inr rfl | (simp only; omega)))⟩⟩ rfl rfl hl.1 rfl (lv_room (Nat.le_of_ble_eq_true rfl)) dX4_value_38 ⟨Nat.zero_le _, Nat.zero_le _⟩) hh_1.1 (fun q _ h => h) (fun q h => h) (fun r_8 u_7 t_7 H_7 locs_7 ht_7 hvm_7 hr_8 hb_7 hz_7 hk_7 hS_7 => ?_)
        obtain ⟨qt_7, rfl⟩ : ∃ z, z = u_7 := ⟨_, rfl⟩
        rw [ht_7] at hb_7
        obtain ⟨hb_71, hb_72, hb_73, hb_74, hb_75⟩ := hb_7
        have hh_7 : jSt (dC, dI) B base G0 G0 EX4_value s.heap 0 0 [(r0, 6, 11, .int qt_7), (r0, 6, 9, .ref rb), (r0, 6, 10, .int pe)] [] [] H_7 locs_7 := ((hh_1.call hb_71 hb_72 hb_73 hb_74 hS_7 rfl (L1 := [(r0, 6, 9, .ref rb), (r0, 6, 10, .int pe)]) [0, 1] rfl rfl (M1 := []) [] rfl rfl (I1 := []) [] rfl rfl).more hb_75)
        clear hh_1 ht_7 hvm_7 hz_7 hk_7 hS_7 hb_71 hb_72 hb_73 hb_74 hb_75
        obtain ⟨hr_8_0, hr_8_1, hr_8_2, hr_8_3, hr_8_4⟩ := hr_8
        refine lv_goto (tgt := 45) hx hb dX4_value_41 (by decide) ?_
        rw [hQ]
        exact W.iret (v := r_8) hx hb hr (fun t ht hW => ⟨⟨r_8, qt_7, rfl, by first | omega | (refine ⟨?_, ?_, ?_, ?_, ?_⟩ <;> (first | omega | rfl | assumption | decide | exact Or.inl rfl | exact Or.inr rfl | (simp only; omega))), hh_7.rt (M1 := [(r0, 6, 11, .int qt_7)]) [0] rfl ht⟩, by rw [ht]; try exact hh_7.1.1, fun q h9 hq => by rw [ht]; try exact hh_7.1.2.1 q h9 hq⟩) hh_7.1.2.2 dX4_value_45
      · skip
        have c_6' : r_2.toInt = 123 := jb_ne_n (rfl) ((by decide)) c_6
        first | (have hr_2_2q := hr_2_2.resolve_left (by omega); clear hr_2_2) | (have hr_2_2q := hr_2_2.resolve_right (by omega); clear hr_2_2) | skip
        refine lv_iconst (v := 1) hx hb dX4_value_33 (by decide) ?_
        refine lv_goto (tgt := 38) hx hb dX4_value_34 (by decide) ?_
        refine va_calli (A0 := jA base) (H0 := s.heap) (va_runV (As := [.int z_5, .int 1]) (rest := []) ⟨hx, hb, hml, hown, hts⟩ (ihM (ef - 1) (by omega) G0 H_1 r0 z_5 1 rb n_rb pe pt) (cwV 2 hts (jgV (jWr_20 _ (List.mem_of_getElem? (i := 5) rfl)) (jWr_20 _ (List.mem_of_getElem? (i := 6) rfl)) (jWr_20 _ (List.mem_of_getElem? (i := 7) rfl)) (jWr_1 _ (List.mem_of_getElem? (i := 22) rfl)) (jWr_23 _ (List.mem_of_getElem? (i := 5) rfl))) rfl rfl rfl (by decide +kernel) ⟨by rw [← hR]; show (2 * (ef - 1) + 9) + 1 ≤ 2 * ef + 8; omega, by rw [← hR]; show 8 + (11 + 11) + (130 * (ef - 1) + 560) ≤ 130 * ef + 500; omega⟩) ⟨fun a U g mk q => by obtain ⟨q0, q1, q2, qK, q10, q11, q12, q13⟩ := q; exact ⟨q0, q1, q2, jG.calling g mk a qK, q10, q11, q12, q13⟩, hh_1.recv (C := RX4) (T := TX4) (N := 12) hB6 rfl (by decide) hg_r0 hK, fun U hU hW => ⟨rfl, hU, hh_1.2.1, hG.step hW hU hh_1.1, hg_r0, hg_rb, (hh_1.2.2.1.sub (L1 := [(r0, 6, 9, .ref rb), (r0, 6, 10, .int pe), (r0, 6, 11, .int pt)]) [0, 1, 2] rfl), by first | omega | (refine ⟨?_, ?_, ?_, ?_, ?_, ?_, ?_, ?_⟩ <;> (first | omega | rfl | assumption | decide | exact Or.inl rfl | exact Or.inr rfl | (simp only; omega)))⟩⟩ rfl rfl hl.1 rfl (lv_room (Nat.le_of_ble_eq_true rfl)) dX4_value_38 ⟨Nat.zero_le _, Nat.zero_le _⟩) hh_1.1 (fun q _ h => h) (fun q h => h) (fun r_10 u_9 t_9 H_9 locs_9 ht_9 hvm_9 hr_10 hb_9 hz_9 hk_9 hS_9 => ?_)
        obtain ⟨qt_9, rfl⟩ : ∃ z, z = u_9 := ⟨_, rfl⟩
        rw [ht_9] at hb_9
        obtain ⟨hb_91, hb_92, hb_93, hb_94, hb_95⟩ := hb_9
        have hh_9 : jSt (dC, dI) B base G0 G0 EX4_value s.heap 0 0 [(r0, 6, 11, .int qt_9), (r0, 6, 9, .ref rb), (r0, 6, 10, .int pe)] [] [] H_9 locs_9 := ((hh_1.call hb_91 hb_92 hb_93 hb_94 hS_9 rfl (L1 := [(r0, 6, 9, .ref rb), (r0, 6, 10, .int pe)]) [0, 1] rfl rfl (M1 := []) [] rfl rfl (I1 := []) [] rfl rfl).more hb_95)
        clear hh_1 ht_9 hvm_9 hz_9 hk_9 hS_9 hb_91 hb_92 hb_93 hb_94 hb_95
        obtain ⟨hr_10_0, hr_10_1, hr_10_2, hr_10_3, hr_10_4⟩ := hr_10
        refine lv_goto (tgt := 45) hx hb dX4_value_41 (by decide) ?_
        rw [hQ]
        exact W.iret (v := r_10) hx hb hr (fun t ht hW => ⟨⟨r_10, qt_9, rfl, by first | omega | (refine ⟨?_, ?_, ?_, ?_, ?_⟩ <;> (first | omega | rfl | assumption | decide | exact Or.inl rfl | exact Or.inr rfl | (simp only; omega))), hh_9.rt (M1 := [(r0, 6, 11, .int qt_9)]) [0] rfl ht⟩, by rw [ht]; try exact hh_9.1.1, fun q h9 hq => by rw [ht]; try exact hh_9.1.2.1 q h9 hq⟩) hh_9.1.2.2 dX4_value_45
  · skip
    have c_3' : r_2.toInt ≠ 123 := jb_eq_n (rfl) ((by decide)) c_3
    refine lv_iload_n hx hb dX4_value_11 rfl (lv_at hl 0 rfl) ?_
    refine lv_bipush (v := 91) hx hb dX4_value_12 (by decide) ?_
    refine lv_icmp_ne (tgt := 46) hx hb dX4_value_14 (by decide) (fun c_11 => ?_) (fun c_11 => ?_)
    · skip
      have c_11' : r_2.toInt ≠ 91 := jb_ne (rfl) ((by decide)) c_11
      refine lv_iload_n hx hb dX4_value_46 rfl (lv_at hl 0 rfl) ?_
      refine lv_bipush (v := 34) hx hb dX4_value_47 (by decide) ?_
      refine lv_icmp_ne (tgt := 81) hx hb dX4_value_49 (by decide) (fun c_12 => ?_) (fun c_12 => ?_)
      · skip
        have c_12' : r_2.toInt ≠ 34 := jb_ne (rfl) ((by decide)) c_12
        refine lv_iload_n hx hb dX4_value_81 rfl (lv_at hl 0 rfl) ?_
        refine lv_bipush (v := 45) hx hb dX4_value_82 (by decide) ?_
        refine lv_icmp_eq (tgt := 94) hx hb dX4_value_84 (by decide) (fun c_13 => ?_) (fun c_13 => ?_)
        · skip
          have c_13' : r_2.toInt = 45 := jb_eq (rfl) ((by decide)) c_13
          first | (have hr_2_2q := hr_2_2.resolve_left (by omega); clear hr_2_2) | (have hr_2_2q := hr_2_2.resolve_right (by omega); clear hr_2_2) | skip
          refine lv_aload_n hx hb dX4_value_94 rfl (lv_at hl 1 rfl) ?_
          refine va_calli (A0 := jA base) (H0 := s.heap) (va_runV (As := []) (rest := []) ⟨hx, hb, hml, hown, hts⟩ (uX4_number l dC dI ca base B hB hAp hB6 hB100 hB140 hB141 hB142 hB143 hB144 hB145 G0 H_1 r0 rb n_rb pe pt) (cwV 0 hts (jgV (jWr_22 _ (List.mem_of_getElem? (i := 16) rfl)) (jWr_22 _ (List.mem_of_getElem? (i := 17) rfl)) (jWr_22 _ (List.mem_of_getElem? (i := 18) rfl)) (jWr_1 _ (List.mem_of_getElem? (i := 22) rfl)) (jWr_22 _ (List.mem_of_getElem? (i := 19) rfl))) rfl rfl rfl (by decide +kernel) ⟨by rw [← hR]; show (2) + 1 ≤ 2 * ef + 8; omega, by rw [← hR]; show 8 + (8 + 11) + (41) ≤ 130 * ef + 500; omega⟩) ⟨fun a U g mk q => by obtain ⟨q0, q1, q2, qK, q10, q11, q12, q13⟩ := q; exact ⟨q0, q1, q2, jG.calling g mk a qK, q10, q11, q12, q13⟩, hh_1.recv (C := RX4) (T := TX4) (N := 12) hB6 rfl (by decide) hg_r0 hK, fun U hU hW => ⟨rfl, hU, hh_1.2.1, hG.step hW hU hh_1.1, hg_r0, hg_rb, (hh_1.2.2.1.sub (L1 := [(r0, 6, 9, .ref rb), (r0, 6, 10, .int pe), (r0, 6, 11, .int pt)]) [0, 1, 2] rfl), by first | omega | (refine ⟨?_, ?_, ?_, ?_, ?_, ?_⟩ <;> (first | omega | rfl | assumption | decide | exact Or.inl rfl | exact Or.inr rfl | (simp only; omega)))⟩⟩ rfl rfl hl.1 rfl (lv_room (Nat.le_of_ble_eq_true rfl)) dX4_value_95 ⟨Nat.zero_le _, Nat.zero_le _⟩) hh_1.1 (fun q _ h => h) (fun q h => h) (fun r_15 u_14 t_14 H_14 locs_14 ht_14 hvm_14 hr_15 hb_14 hz_14 hk_14 hS_14 => ?_)
          obtain ⟨qt_14, rfl⟩ : ∃ z, z = u_14 := ⟨_, rfl⟩
          rw [ht_14] at hb_14
          obtain ⟨hb_141, hb_142, hb_143, hb_144, hb_145⟩ := hb_14
          have hh_14 : jSt (dC, dI) B base G0 G0 EX4_value s.heap 0 0 [(r0, 6, 11, .int qt_14), (r0, 6, 9, .ref rb), (r0, 6, 10, .int pe)] [] [] H_14 locs_14 := ((hh_1.call hb_141 hb_142 hb_143 hb_144 hS_14 rfl (L1 := [(r0, 6, 9, .ref rb), (r0, 6, 10, .int pe)]) [0, 1] rfl rfl (M1 := []) [] rfl rfl (I1 := []) [] rfl rfl).more hb_145)
          clear hh_1 ht_14 hvm_14 hz_14 hk_14 hS_14 hb_141 hb_142 hb_143 hb_144 hb_145
          obtain ⟨hr_15_0, hr_15_1, hr_15_2, hr_15_3⟩ := hr_15
          rw [hQ]
          exact W.iret (v := r_15) hx hb hr (fun t ht hW => ⟨⟨r_15, qt_14, rfl, by first | omega | (refine ⟨?_, ?_, ?_, ?_, ?_⟩ <;> (first | omega | rfl | assumption | decide | exact Or.inl rfl | exact Or.inr rfl | (simp only; omega))), hh_14.rt (M1 := [(r0, 6, 11, .int qt_14)]) [0] rfl ht⟩, by rw [ht]; try exact hh_14.1.1, fun q h9 hq => by rw [ht]; try exact hh_14.1.2.1 q h9 hq⟩) hh_14.1.2.2 dX4_value_98
        · skip
          have c_13' : r_2.toInt ≠ 45 := jb_eq_n (rfl) ((by decide)) c_13
          refine lv_iload_n hx hb dX4_value_87 rfl (lv_at hl 0 rfl) ?_
          refine vp_callSi (va_Run.run (va_runSN (As := [.int r_2]) (rest := []) ⟨hx, hb, hml, hown, hts⟩ (wX11_isDigit l dC dI ca base H_1 r_2) ⟨va_cnB 1 hts (jgW (jWr_22 _ (List.mem_of_getElem? (i := 15) rfl))) rfl rfl rfl (hG.2.2.1 RX4 108 yX11_isDigit "ProofServer" (List.mem_of_getElem? (i := 711) (by decide +kernel))) (htw (.initialized RX11) (jWr_1 _ (List.mem_of_getElem? (i := 2) rfl))) (by decide +kernel) ⟨by rw [← hR]; exact Nat.le_of_ble_eq_true rfl, by rw [← hR]; exact Nat.le_of_ble_eq_true rfl⟩, htw (.static yX11_isDigit) (jWr_22 _ (List.mem_of_getElem? (i := 14) rfl)), trivial⟩ ⟨fun a U g mk q => by obtain ⟨q0, q1, qK, q9⟩ := q; exact ⟨q0, q1, jG.calling g mk a qK, q9⟩, fun U hU hW => ⟨rfl, hU, hG.step hW hU hh_1.1, by first | trivial | omega | (constructor <;> omega)⟩⟩ rfl rfl hl.1 rfl (lv_room (Nat.le_of_ble_eq_true rfl)) dX4_value_88 ⟨Nat.zero_le _, Nat.zero_le _⟩)) (fun r_16 hr_16 => ?_)
          have hr_16' : r_16.toInt = 0 ∨ r_16.toInt = 1 := jb_01 hr_16
          refine lv_if_eq (tgt := 99) hx hb dX4_value_91 (by decide) (fun c_17 => ?_) (fun c_17 => ?_)
          · skip
            have c_17' : r_16.toInt = 0 := jb_eq (rfl) ((by decide)) c_17
            refine lv_aload_n hx hb dX4_value_99 rfl (lv_at hl 1 rfl) ?_
            refine va_ldcS hx hb hown rstr114 dX4_value_100 ?_
            refine va_calli (A0 := jA base) (H0 := s.heap) (va_runV (As := [.ref str114]) (rest := []) ⟨hx, hb, hml, hown, hts⟩ (uX4_isWord l dC dI ca base B hB hAp hB6 hB100 G0 H_1 r0 str114 4 rb n_rb pe pt) (cwV 1 hts (jgV (jWr_20 _ (List.mem_of_getElem? (i := 19) rfl)) (jWr_20 _ (List.mem_of_getElem? (i := 20) rfl)) (jWr_20 _ (List.mem_of_getElem? (i := 21) rfl)) (jWr_1 _ (List.mem_of_getElem? (i := 22) rfl)) (jWr_20 _ (List.mem_of_getElem? (i := 22) rfl))) rfl rfl rfl (by decide +kernel) ⟨by rw [← hR]; show (4) + 1 ≤ 2 * ef + 8; omega, by rw [← hR]; show 8 + (3 + 11) + (141) ≤ 130 * ef + 500; omega⟩) ⟨fun a U g mk q => by obtain ⟨q0, q1, q2, qK, q10, q11, q12, q13, q14⟩ := q; exact ⟨q0, q1, q2, jG.calling g mk a qK, (q10.moved (Vm.Alike.refl U.vm)), q11, q12, q13, q14⟩, hh_1.recv (C := RX4) (T := TX4) (N := 12) hB6 rfl (by decide) hg_r0 hK, fun U hU hW => ⟨rfl, hU, hh_1.2.1, hG.step hW hU hh_1.1, (hstr114.moved hW.alike).kept hh_1.1.2.1, hg_r0, hg_rb, (hh_1.2.2.1.sub (L1 := [(r0, 6, 9, .ref rb), (r0, 6, 10, .int pe), (r0, 6, 11, .int pt)]) [0, 1, 2] rfl), by first | omega | (refine ⟨?_, ?_, ?_, ?_, ?_, ?_, ?_, ?_⟩ <;> (first | omega | rfl | assumption | decide | exact Or.inl rfl | exact Or.inr rfl | (simp only; omega)))⟩⟩ rfl rfl hl.1 rfl (lv_room (Nat.le_of_ble_eq_true rfl)) dX4_value_102 ⟨Nat.zero_le _, Nat.zero_le _⟩) hh_1.1 (fun q _ h => h) (fun q h => h) (fun r_19 u_18 t_18 H_18 locs_18 ht_18 hvm_18 hr_19 hb_18 hz_18 hk_18 hS_18 => ?_)
            obtain ⟨qt_18, rfl⟩ : ∃ z, z = u_18 := ⟨_, rfl⟩
            rw [ht_18] at hb_18
            obtain ⟨hb_181, hb_182, hb_183, hb_184, hb_185⟩ := hb_18
            have hh_18 : jSt (dC, dI) B base G0 G0 EX4_value s.heap 0 0 [(r0, 6, 11, .int qt_18), (r0, 6, 9, .ref rb), (r0, 6, 10, .int pe)] [] [] H_18 locs_18 := ((hh_1.call hb_181 hb_182 hb_183 hb_184 hS_18 rfl (L1 := [(r0, 6, 9, .ref rb), (r0, 6, 10, .int pe)]) [0, 1] rfl rfl (M1 := []) [] rfl rfl (I1 := []) [] rfl rfl).more hb_185)
            clear hh_1 ht_18 hvm_18 hz_18 hk_18 hS_18 hb_181 hb_182 hb_183 hb_184 hb_185
            obtain ⟨hr_19b, hr_19p⟩ := hr_19
            obtain ⟨hr_19p_0, hr_19p_1, hr_19p_2⟩ := hr_19p
            have hr_19' := jb_01 hr_19b
            refine lv_if_ne (tgt := 126) hx hb dX4_value_105 (by decide) (fun c_20 => ?_) (fun c_20 => ?_)
            · skip
              have c_20' : r_19.toInt ≠ 0 := jb_ne (rfl) ((by decide)) c_20
              refine lv_iconst (v := 1) hx hb dX4_value_126 (by decide) ?_
              refine lv_goto (tgt := 131) hx hb dX4_value_127 (by decide) ?_
              refine lv_istore_n (lv' := [(3, .int 1), (2, .int r_2), (0, .ref r0), (1, .int a1)]) hx hb dX4_value_131 rfl hl (by decide) rfl (fun ls hl => ?_)
              refine lv_iload_n hx hb dX4_value_132 rfl (lv_at hl 0 rfl) ?_
              refine lv_if_eq (tgt := 146) hx hb dX4_value_133 (by decide) (fun c_21 => ?_) (fun c_21 => ?_)
              · skip
                exact absurd c_21 (by decide)
              · skip
                refine lv_aload_n hx hb dX4_value_136 rfl (lv_at hl 2 rfl) ?_
                refine lv_iconst (v := 5) hx hb dX4_value_137 (by decide) ?_
                refine lv_iconst (v := 0) hx hb dX4_value_138 (by decide) ?_
                refine lv_iconst (v := 0) hx hb dX4_value_139 (by decide) ?_
                refine va_calli (A0 := jA base) (H0 := s.heap) (va_runV (As := [.int 5, .int 0, .int 0]) (rest := []) ⟨hx, hb, hml, hown, hts⟩ (uX4_make l dC dI ca base B hB hAp hB6 hB140 hB141 hB142 hB143 hB144 hB145 G0 H_18 r0 5 0 0) (cwV 3 hts (jgV (jWr_22 _ (List.mem_of_getElem? (i := 10) rfl)) (jWr_22 _ (List.mem_of_getElem? (i := 11) rfl)) (jWr_22 _ (List.mem_of_getElem? (i := 12) rfl)) (jWr_1 _ (List.mem_of_getElem? (i := 22) rfl)) (jWr_22 _ (List.mem_of_getElem? (i := 13) rfl))) rfl rfl rfl (by decide +kernel) ⟨by rw [← hR]; show (0) + 1 ≤ 2 * ef + 8; omega, by rw [← hR]; show 8 + (4 + 11) + (0) ≤ 130 * ef + 500; omega⟩) ⟨fun a U g mk q => by obtain ⟨q0, q1, q2, qK, q10, q11, q12⟩ := q; exact ⟨q0, q1, q2, jG.calling g mk a qK, q10, q11, q12⟩, hh_18.recv (C := RX4) (T := TX4) (N := 12) hB6 rfl (by decide) hg_r0 hK, fun U hU hW => ⟨rfl, hU, hh_18.2.1, hG.step hW hU hh_18.1, hg_r0, jP.nil, trivial⟩⟩ rfl rfl hl.1 rfl (lv_room (Nat.le_of_ble_eq_true rfl)) dX4_value_140 ⟨Nat.zero_le _, Nat.zero_le _⟩) hh_18.1 (fun q _ h => h) (fun q h => h) (fun r_23 u_22 t_22 H_22 locs_22 ht_22 hvm_22 hr_23 hb_22 hz_22 hk_22 hS_22 => ?_)
                rw [ht_22] at hb_22
                obtain ⟨hb_221, hb_222, hb_223, hb_224, hb_225⟩ := hb_22
                have hh_22 : jSt (dC, dI) B base G0 G0 EX4_value s.heap 0 0 [(r0, 6, 11, .int qt_18), (r0, 6, 9, .ref rb), (r0, 6, 10, .int pe)] [] [] H_22 locs_22 := ((hh_18.call hb_221 hb_222 hb_223 hb_224 hS_22 rfl (L1 := [(r0, 6, 11, .int qt_18), (r0, 6, 9, .ref rb), (r0, 6, 10, .int pe)]) [0, 1, 2] rfl rfl (M1 := []) [] rfl rfl (I1 := []) [] rfl rfl).more hb_225)
                clear hh_18 ht_22 hvm_22 hz_22 hk_22 hS_22 hb_221 hb_222 hb_223 hb_224 hb_225
                obtain ⟨hr_23_0, hr_23_1⟩ := hr_23
                refine lv_goto (tgt := 147) hx hb dX4_value_143 (by decide) ?_
                rw [hQ]
                exact W.iret (v := r_23) hx hb hr (fun t ht hW => ⟨⟨r_23, qt_18, rfl, by first | omega | (refine ⟨?_, ?_, ?_, ?_, ?_⟩ <;> (first | omega | rfl | assumption | decide | exact Or.inl rfl | exact Or.inr rfl | (simp only; omega))), hh_22.rt (M1 := [(r0, 6, 11, .int qt_18)]) [0] rfl ht⟩, by rw [ht]; try exact hh_22.1.1, fun q h9 hq => by rw [ht]; try exact hh_22.1.2.1 q h9 hq⟩) hh_22.1.2.2 dX4_value_147
            · skip
              have c_20' : r_19.toInt = 0 := jb_ne_n (rfl) ((by decide)) c_20
              refine lv_aload_n hx hb dX4_value_108 rfl (lv_at hl 1 rfl) ?_
              refine va_ldcS hx hb hown rstr120 dX4_value_109 ?_
              refine va_calli (A0 := jA base) (H0 := s.heap) (va_runV (As := [.ref str120]) (rest := []) ⟨hx, hb, hml, hown, hts⟩ (uX4_isWord l dC dI ca base B hB hAp hB6 hB100 G0 H_18 r0 str120 5 rb n_rb pe qt_18) (cwV 1 hts (jgV (jWr_20 _ (List.mem_of_getElem? (i := 19) rfl)) (jWr_20 _ (List.mem_of_getElem? (i := 20) rfl)) (jWr_20 _ (List.mem_of_getElem? (i := 21) rfl)) (jWr_1 _ (List.mem_of_getElem? (i := 22) rfl)) (jWr_20 _ (List.mem_of_getElem? (i := 22) rfl))) rfl rfl rfl (by decide +kernel) ⟨by rw [← hR]; show (4) + 1 ≤ 2 * ef + 8; omega, by rw [← hR]; show 8 + (3 + 11) + (141) ≤ 130 * ef + 500; omega⟩) ⟨fun a U g mk q => by obtain ⟨q0, q1, q2, qK, q10, q11, q12, q13, q14⟩ := q; exact ⟨q0, q1, q2, jG.calling g mk a qK, (q10.moved (Vm.Alike.refl U.vm)), q11, q12, q13, q14⟩, hh_18.recv (C := RX4) (T := TX4) (N := 12) hB6 rfl (by decide) hg_r0 hK, fun U hU hW => ⟨rfl, hU, hh_18.2.1, hG.step hW hU hh_18.1, (hstr120.moved hW.alike).kept hh_18.1.2.1, hg_r0, hg_rb, (hh_18.2.2.1.sub (L1 := [(r0, 6, 9, .ref rb), (r0, 6, 10, .int pe), (r0, 6, 11, .int qt_18)]) [1, 2, 0] rfl), by first | omega | (refine ⟨?_, ?_, ?_, ?_, ?_, ?_, ?_, ?_⟩ <;> (first | omega | rfl | assumption | decide | exact Or.inl rfl | exact Or.inr rfl | (simp only; omega)))⟩⟩ rfl rfl hl.1 rfl (lv_room (Nat.le_of_ble_eq_true rfl)) dX4_value_111 ⟨Nat.zero_le _, Nat.zero_le _⟩) hh_18.1 (fun q _ h => h) (fun q h => h) (fun r_25 u_24 t_24 H_24 locs_24 ht_24 hvm_24 hr_25 hb_24 hz_24 hk_24 hS_24 => ?_)
              obtain ⟨qt_24, rfl⟩ : ∃ z, z = u_24 := ⟨_, rfl⟩
              rw [ht_24] at hb_24
              obtain ⟨hb_241, hb_242, hb_243, hb_244, hb_245⟩ := hb_24
              have hh_24 : jSt (dC, dI) B base G0 G0 EX4_value s.heap 0 0 [(r0, 6, 11, .int qt_24), (r0, 6, 9, .ref rb), (r0, 6, 10, .int pe)] [] [] H_24 locs_24 := ((hh_18.call hb_241 hb_242 hb_243 hb_244 hS_24 rfl (L1 := [(r0, 6, 9, .ref rb), (r0, 6, 10, .int pe)]) [1, 2] rfl rfl (M1 := []) [] rfl rfl (I1 := []) [] rfl rfl).more hb_245)
              clear hh_18 ht_24 hvm_24 hz_24 hk_24 hS_24 hb_241 hb_242 hb_243 hb_244 hb_245
              obtain ⟨hr_25b, hr_25p⟩ := hr_25
              obtain ⟨hr_25p_0, hr_25p_1, hr_25p_2⟩ := hr_25p
              have hr_25' := jb_01 hr_25b
              refine lv_if_ne (tgt := 126) hx hb dX4_value_114 (by decide) (fun c_26 => ?_) (fun c_26 => ?_)
              · skip
                have c_26' : r_25.toInt ≠ 0 := jb_ne (rfl) ((by decide)) c_26
                refine lv_iconst (v := 1) hx hb dX4_value_126 (by decide) ?_
                refine lv_goto (tgt := 131) hx hb dX4_value_127 (by decide) ?_
                refine lv_istore_n (lv' := [(3, .int 1), (2, .int r_2), (0, .ref r0), (1, .int a1)]) hx hb dX4_value_131 rfl hl (by decide) rfl (fun ls hl => ?_)
                refine lv_iload_n hx hb dX4_value_132 rfl (lv_at hl 0 rfl) ?_
                refine lv_if_eq (tgt := 146) hx hb dX4_value_133 (by decide) (fun c_27 => ?_) (fun c_27 => ?_)
                · skip
                  exact absurd c_27 (by decide)
                · skip
                  refine lv_aload_n hx hb dX4_value_136 rfl (lv_at hl 2 rfl) ?_
                  refine lv_iconst (v := 5) hx hb dX4_value_137 (by decide) ?_
                  refine lv_iconst (v := 0) hx hb dX4_value_138 (by decide) ?_
                  refine lv_iconst (v := 0) hx hb dX4_value_139 (by decide) ?_
                  refine va_calli (A0 := jA base) (H0 := s.heap) (va_runV (As := [.int 5, .int 0, .int 0]) (rest := []) ⟨hx, hb, hml, hown, hts⟩ (uX4_make l dC dI ca base B hB hAp hB6 hB140 hB141 hB142 hB143 hB144 hB145 G0 H_24 r0 5 0 0) (cwV 3 hts (jgV (jWr_22 _ (List.mem_of_getElem? (i := 10) rfl)) (jWr_22 _ (List.mem_of_getElem? (i := 11) rfl)) (jWr_22 _ (List.mem_of_getElem? (i := 12) rfl)) (jWr_1 _ (List.mem_of_getElem? (i := 22) rfl)) (jWr_22 _ (List.mem_of_getElem? (i := 13) rfl))) rfl rfl rfl (by decide +kernel) ⟨by rw [← hR]; show (0) + 1 ≤ 2 * ef + 8; omega, by rw [← hR]; show 8 + (4 + 11) + (0) ≤ 130 * ef + 500; omega⟩) ⟨fun a U g mk q => by obtain ⟨q0, q1, q2, qK, q10, q11, q12⟩ := q; exact ⟨q0, q1, q2, jG.calling g mk a qK, q10, q11, q12⟩, hh_24.recv (C := RX4) (T := TX4) (N := 12) hB6 rfl (by decide) hg_r0 hK, fun U hU hW => ⟨rfl, hU, hh_24.2.1, hG.step hW hU hh_24.1, hg_r0, jP.nil, trivial⟩⟩ rfl rfl hl.1 rfl (lv_room (Nat.le_of_ble_eq_true rfl)) dX4_value_140 ⟨Nat.zero_le _, Nat.zero_le _⟩) hh_24.1 (fun q _ h => h) (fun q h => h) (fun r_29 u_28 t_28 H_28 locs_28 ht_28 hvm_28 hr_29 hb_28 hz_28 hk_28 hS_28 => ?_)
                  rw [ht_28] at hb_28
                  obtain ⟨hb_281, hb_282, hb_283, hb_284, hb_285⟩ := hb_28
                  have hh_28 : jSt (dC, dI) B base G0 G0 EX4_value s.heap 0 0 [(r0, 6, 11, .int qt_24), (r0, 6, 9, .ref rb), (r0, 6, 10, .int pe)] [] [] H_28 locs_28 := ((hh_24.call hb_281 hb_282 hb_283 hb_284 hS_28 rfl (L1 := [(r0, 6, 11, .int qt_24), (r0, 6, 9, .ref rb), (r0, 6, 10, .int pe)]) [0, 1, 2] rfl rfl (M1 := []) [] rfl rfl (I1 := []) [] rfl rfl).more hb_285)
                  clear hh_24 ht_28 hvm_28 hz_28 hk_28 hS_28 hb_281 hb_282 hb_283 hb_284 hb_285
                  obtain ⟨hr_29_0, hr_29_1⟩ := hr_29
                  refine lv_goto (tgt := 147) hx hb dX4_value_143 (by decide) ?_
                  rw [hQ]
                  exact W.iret (v := r_29) hx hb hr (fun t ht hW => ⟨⟨r_29, qt_24, rfl, by first | omega | (refine ⟨?_, ?_, ?_, ?_, ?_⟩ <;> (first | omega | rfl | assumption | decide | exact Or.inl rfl | exact Or.inr rfl | (simp only; omega))), hh_28.rt (M1 := [(r0, 6, 11, .int qt_24)]) [0] rfl ht⟩, by rw [ht]; try exact hh_28.1.1, fun q h9 hq => by rw [ht]; try exact hh_28.1.2.1 q h9 hq⟩) hh_28.1.2.2 dX4_value_147
              · skip
                have c_26' : r_25.toInt = 0 := jb_ne_n (rfl) ((by decide)) c_26
                refine lv_aload_n hx hb dX4_value_117 rfl (lv_at hl 1 rfl) ?_
                refine va_ldcS hx hb hown rstr122 dX4_value_118 ?_
                refine va_calli (A0 := jA base) (H0 := s.heap) (va_runV (As := [.ref str122]) (rest := []) ⟨hx, hb, hml, hown, hts⟩ (uX4_isWord l dC dI ca base B hB hAp hB6 hB100 G0 H_24 r0 str122 4 rb n_rb pe qt_24) (cwV 1 hts (jgV (jWr_20 _ (List.mem_of_getElem? (i := 19) rfl)) (jWr_20 _ (List.mem_of_getElem? (i := 20) rfl)) (jWr_20 _ (List.mem_of_getElem? (i := 21) rfl)) (jWr_1 _ (List.mem_of_getElem? (i := 22) rfl)) (jWr_20 _ (List.mem_of_getElem? (i := 22) rfl))) rfl rfl rfl (by decide +kernel) ⟨by rw [← hR]; show (4) + 1 ≤ 2 * ef + 8; omega, by rw [← hR]; show 8 + (3 + 11) + (141) ≤ 130 * ef + 500; omega⟩) ⟨fun a U g mk q => by obtain ⟨q0, q1, q2, qK, q10, q11, q12, q13, q14⟩ := q; exact ⟨q0, q1, q2, jG.calling g mk a qK, (q10.moved (Vm.Alike.refl U.vm)), q11, q12, q13, q14⟩, hh_24.recv (C := RX4) (T := TX4) (N := 12) hB6 rfl (by decide) hg_r0 hK, fun U hU hW => ⟨rfl, hU, hh_24.2.1, hG.step hW hU hh_24.1, (hstr122.moved hW.alike).kept hh_24.1.2.1, hg_r0, hg_rb, (hh_24.2.2.1.sub (L1 := [(r0, 6, 9, .ref rb), (r0, 6, 10, .int pe), (r0, 6, 11, .int qt_24)]) [1, 2, 0] rfl), by first | omega | (refine ⟨?_, ?_, ?_, ?_, ?_, ?_, ?_, ?_⟩ <;> (first | omega | rfl | assumption | decide | exact Or.inl rfl | exact Or.inr rfl | (simp only; omega)))⟩⟩ rfl rfl hl.1 rfl (lv_room (Nat.le_of_ble_eq_true rfl)) dX4_value_120 ⟨Nat.zero_le _, Nat.zero_le _⟩) hh_24.1 (fun q _ h => h) (fun q h => h) (fun r_31 u_30 t_30 H_30 locs_30 ht_30 hvm_30 hr_31 hb_30 hz_30 hk_30 hS_30 => ?_)
                obtain ⟨qt_30, rfl⟩ : ∃ z, z = u_30 := ⟨_, rfl⟩
                rw [ht_30] at hb_30
                obtain ⟨hb_301, hb_302, hb_303, hb_304, hb_305⟩ := hb_30
                have hh_30 : jSt (dC, dI) B base G0 G0 EX4_value s.heap 0 0 [(r0, 6, 11, .int qt_30), (r0, 6, 9, .ref rb), (r0, 6, 10, .int pe)] [] [] H_30 locs_30 := ((hh_24.call hb_301 hb_302 hb_303 hb_304 hS_30 rfl (L1 := [(r0, 6, 9, .ref rb), (r0, 6, 10, .int pe)]) [1, 2] rfl rfl (M1 := []) [] rfl rfl (I1 := []) [] rfl rfl).more hb_305)
                clear hh_24 ht_30 hvm_30 hz_30 hk_30 hS_30 hb_301 hb_302 hb_303 hb_304 hb_305
                obtain ⟨hr_31b, hr_31p⟩ := hr_31
                obtain ⟨hr_31p_0, hr_31p_1, hr_31p_2⟩ := hr_31p
                have hr_31' := jb_01 hr_31b
                refine lv_if_eq (tgt := 130) hx hb dX4_value_123 (by decide) (fun c_32 => ?_) (fun c_32 => ?_)
                · skip
                  have c_32' : r_31.toInt = 0 := jb_eq (rfl) ((by decide)) c_32
                  refine lv_iconst (v := 0) hx hb dX4_value_130 (by decide) ?_
                  refine lv_istore_n (lv' := [(3, .int 0), (2, .int r_2), (0, .ref r0), (1, .int a1)]) hx hb dX4_value_131 rfl hl (by decide) rfl (fun ls hl => ?_)
                  refine lv_iload_n hx hb dX4_value_132 rfl (lv_at hl 0 rfl) ?_
                  refine lv_if_eq (tgt := 146) hx hb dX4_value_133 (by decide) (fun c_33 => ?_) (fun c_33 => ?_)
                  · skip
                    refine lv_iconst (v := (-1)) hx hb dX4_value_146 (by decide) ?_
                    rw [hQ]
                    exact W.iret (v := (-1)) hx hb hr (fun t ht hW => ⟨⟨(-1), qt_30, rfl, by first | omega | (refine ⟨?_, ?_, ?_, ?_, ?_⟩ <;> (first | omega | rfl | assumption | decide | exact Or.inl rfl | exact Or.inr rfl | (simp only; omega))), hh_30.rt (M1 := [(r0, 6, 11, .int qt_30)]) [0] rfl ht⟩, by rw [ht]; try exact hh_30.1.1, fun q h9 hq => by rw [ht]; try exact hh_30.1.2.1 q h9 hq⟩) hh_30.1.2.2 dX4_value_147
                  · skip
                    exact absurd c_33 (by decide)
                · skip
                  have c_32' : r_31.toInt ≠ 0 := jb_eq_n (rfl) ((by decide)) c_32
                  refine lv_iconst (v := 1) hx hb dX4_value_126 (by decide) ?_
                  refine lv_goto (tgt := 131) hx hb dX4_value_127 (by decide) ?_
                  refine lv_istore_n (lv' := [(3, .int 1), (2, .int r_2), (0, .ref r0), (1, .int a1)]) hx hb dX4_value_131 rfl hl (by decide) rfl (fun ls hl => ?_)
                  refine lv_iload_n hx hb dX4_value_132 rfl (lv_at hl 0 rfl) ?_
                  refine lv_if_eq (tgt := 146) hx hb dX4_value_133 (by decide) (fun c_34 => ?_) (fun c_34 => ?_)
                  · skip
                    exact absurd c_34 (by decide)
                  · skip
                    refine lv_aload_n hx hb dX4_value_136 rfl (lv_at hl 2 rfl) ?_
                    refine lv_iconst (v := 5) hx hb dX4_value_137 (by decide) ?_
                    refine lv_iconst (v := 0) hx hb dX4_value_138 (by decide) ?_
                    refine lv_iconst (v := 0) hx hb dX4_value_139 (by decide) ?_
                    refine va_calli (A0 := jA base) (H0 := s.heap) (va_runV (As := [.int 5, .int 0, .int 0]) (rest := []) ⟨hx, hb, hml, hown, hts⟩ (uX4_make l dC dI ca base B hB hAp hB6 hB140 hB141 hB142 hB143 hB144 hB145 G0 H_30 r0 5 0 0) (cwV 3 hts (jgV (jWr_22 _ (List.mem_of_getElem? (i := 10) rfl)) (jWr_22 _ (List.mem_of_getElem? (i := 11) rfl)) (jWr_22 _ (List.mem_of_getElem? (i := 12) rfl)) (jWr_1 _ (List.mem_of_getElem? (i := 22) rfl)) (jWr_22 _ (List.mem_of_getElem? (i := 13) rfl))) rfl rfl rfl (by decide +kernel) ⟨by rw [← hR]; show (0) + 1 ≤ 2 * ef + 8; omega, by rw [← hR]; show 8 + (4 + 11) + (0) ≤ 130 * ef + 500; omega⟩) ⟨fun a U g mk q => by obtain ⟨q0, q1, q2, qK, q10, q11, q12⟩ := q; exact ⟨q0, q1, q2, jG.calling g mk a qK, q10, q11, q12⟩, hh_30.recv (C := RX4) (T := TX4) (N := 12) hB6 rfl (by decide) hg_r0 hK, fun U hU hW => ⟨rfl, hU, hh_30.2.1, hG.step hW hU hh_30.1, hg_r0, jP.nil, trivial⟩⟩ rfl rfl hl.1 rfl (lv_room (Nat.le_of_ble_eq_true rfl)) dX4_value_140 ⟨Nat.zero_le _, Nat.zero_le _⟩) hh_30.1 (fun q _ h => h) (fun q h => h) (fun r_36 u_35 t_35 H_35 locs_35 ht_35 hvm_35 hr_36 hb_35 hz_35 hk_35 hS_35 => ?_)
                    rw [ht_35] at hb_35
                    obtain ⟨hb_351, hb_352, hb_353, hb_354, hb_355⟩ := hb_35
                    have hh_35 : jSt (dC, dI) B base G0 G0 EX4_value s.heap 0 0 [(r0, 6, 11, .int qt_30), (r0, 6, 9, .ref rb), (r0, 6, 10, .int pe)] [] [] H_35 locs_35 := ((hh_30.call hb_351 hb_352 hb_353 hb_354 hS_35 rfl (L1 := [(r0, 6, 11, .int qt_30), (r0, 6, 9, .ref rb), (r0, 6, 10, .int pe)]) [0, 1, 2] rfl rfl (M1 := []) [] rfl rfl (I1 := []) [] rfl rfl).more hb_355)
                    clear hh_30 ht_35 hvm_35 hz_35 hk_35 hS_35 hb_351 hb_352 hb_353 hb_354 hb_355
                    obtain ⟨hr_36_0, hr_36_1⟩ := hr_36
                    refine lv_goto (tgt := 147) hx hb dX4_value_143 (by decide) ?_
                    rw [hQ]
                    exact W.iret (v := r_36) hx hb hr (fun t ht hW => ⟨⟨r_36, qt_30, rfl, by first | omega | (refine ⟨?_, ?_, ?_, ?_, ?_⟩ <;> (first | omega | rfl | assumption | decide | exact Or.inl rfl | exact Or.inr rfl | (simp only; omega))), hh_35.rt (M1 := [(r0, 6, 11, .int qt_30)]) [0] rfl ht⟩, by rw [ht]; try exact hh_35.1.1, fun q h9 hq => by rw [ht]; try exact hh_35.1.2.1 q h9 hq⟩) hh_35.1.2.2 dX4_value_147
          · skip
            have c_17' : r_16.toInt ≠ 0 := jb_eq_n (rfl) ((by decide)) c_17
            refine lv_aload_n hx hb dX4_value_94 rfl (lv_at hl 1 rfl) ?_
            refine va_calli (A0 := jA base) (H0 := s.heap) (va_runV (As := []) (rest := []) ⟨hx, hb, hml, hown, hts⟩ (uX4_number l dC dI ca base B hB hAp hB6 hB100 hB140 hB141 hB142 hB143 hB144 hB145 G0 H_1 r0 rb n_rb pe pt) (cwV 0 hts (jgV (jWr_22 _ (List.mem_of_getElem? (i := 16) rfl)) (jWr_22 _ (List.mem_of_getElem? (i := 17) rfl)) (jWr_22 _ (List.mem_of_getElem? (i := 18) rfl)) (jWr_1 _ (List.mem_of_getElem? (i := 22) rfl)) (jWr_22 _ (List.mem_of_getElem? (i := 19) rfl))) rfl rfl rfl (by decide +kernel) ⟨by rw [← hR]; show (2) + 1 ≤ 2 * ef + 8; omega, by rw [← hR]; show 8 + (8 + 11) + (41) ≤ 130 * ef + 500; omega⟩) ⟨fun a U g mk q => by obtain ⟨q0, q1, q2, qK, q10, q11, q12, q13⟩ := q; exact ⟨q0, q1, q2, jG.calling g mk a qK, q10, q11, q12, q13⟩, hh_1.recv (C := RX4) (T := TX4) (N := 12) hB6 rfl (by decide) hg_r0 hK, fun U hU hW => ⟨rfl, hU, hh_1.2.1, hG.step hW hU hh_1.1, hg_r0, hg_rb, (hh_1.2.2.1.sub (L1 := [(r0, 6, 9, .ref rb), (r0, 6, 10, .int pe), (r0, 6, 11, .int pt)]) [0, 1, 2] rfl), by first | omega | (refine ⟨?_, ?_, ?_, ?_, ?_, ?_⟩ <;> (first | omega | rfl | assumption | decide | exact Or.inl rfl | exact Or.inr rfl | (simp only; omega)))⟩⟩ rfl rfl hl.1 rfl (lv_room (Nat.le_of_ble_eq_true rfl)) dX4_value_95 ⟨Nat.zero_le _, Nat.zero_le _⟩) hh_1.1 (fun q _ h => h) (fun q h => h) (fun r_38 u_37 t_37 H_37 locs_37 ht_37 hvm_37 hr_38 hb_37 hz_37 hk_37 hS_37 => ?_)
            obtain ⟨qt_37, rfl⟩ : ∃ z, z = u_37 := ⟨_, rfl⟩
            rw [ht_37] at hb_37
            obtain ⟨hb_371, hb_372, hb_373, hb_374, hb_375⟩ := hb_37
            have hh_37 : jSt (dC, dI) B base G0 G0 EX4_value s.heap 0 0 [(r0, 6, 11, .int qt_37), (r0, 6, 9, .ref rb), (r0, 6, 10, .int pe)] [] [] H_37 locs_37 := ((hh_1.call hb_371 hb_372 hb_373 hb_374 hS_37 rfl (L1 := [(r0, 6, 9, .ref rb), (r0, 6, 10, .int pe)]) [0, 1] rfl rfl (M1 := []) [] rfl rfl (I1 := []) [] rfl rfl).more hb_375)
            clear hh_1 ht_37 hvm_37 hz_37 hk_37 hS_37 hb_371 hb_372 hb_373 hb_374 hb_375
            obtain ⟨hr_38_0, hr_38_1, hr_38_2, hr_38_3⟩ := hr_38
            rw [hQ]
            exact W.iret (v := r_38) hx hb hr (fun t ht hW => ⟨⟨r_38, qt_37, rfl, by first | omega | (refine ⟨?_, ?_, ?_, ?_, ?_⟩ <;> (first | omega | rfl | assumption | decide | exact Or.inl rfl | exact Or.inr rfl | (simp only; omega))), hh_37.rt (M1 := [(r0, 6, 11, .int qt_37)]) [0] rfl ht⟩, by rw [ht]; try exact hh_37.1.1, fun q h9 hq => by rw [ht]; try exact hh_37.1.2.1 q h9 hq⟩) hh_37.1.2.2 dX4_value_98
      · skip
        have c_12' : r_2.toInt = 34 := jb_ne_n (rfl) ((by decide)) c_12
        first | (have hr_2_2q := hr_2_2.resolve_left (by omega); clear hr_2_2) | (have hr_2_2q := hr_2_2.resolve_right (by omega); clear hr_2_2) | skip
        refine lv_aload_n hx hb dX4_value_52 rfl (lv_at hl 1 rfl) ?_
        obtain ⟨v_39, hv_39, hh_40⟩ := hh_1.pin (C := RX4) (T := TX4) (N := 12) hB6 rfl (by decide) hg_r0 (i := 8) (by decide) rfl
        clear hh_1
        obtain ⟨unitCount_41, rfl, hlounitCount_41, hhiunitCount_41⟩ := hv_39
        refine j7_read hx hb hown hK (C := RX4) (T := TX4) (N := 12) rfl hly_6_8 hlk_53 (hh_40.at 0 rfl) dX4_value_53 ?_
        refine lv_istore_n (lv' := [(3, .int unitCount_41), (2, .int r_2), (0, .ref r0), (1, .int a1)]) hx hb dX4_value_56 rfl hl (by decide) rfl (fun ls hl => ?_)
        refine lv_aload_n hx hb dX4_value_57 rfl (lv_at hl 2 rfl) ?_
        refine va_calli (A0 := jA base) (H0 := s.heap) (va_runV (As := []) (rest := []) ⟨hx, hb, hml, hown, hts⟩ (uX4_isString l dC dI ca base B hB hAp hB6 hB100 hB146 G0 H_1 r0 rb n_rb pe pt) (cwV 0 hts (jgV (jWr_20 _ (List.mem_of_getElem? (i := 8) rfl)) (jWr_20 _ (List.mem_of_getElem? (i := 9) rfl)) (jWr_20 _ (List.mem_of_getElem? (i := 10) rfl)) (jWr_1 _ (List.mem_of_getElem? (i := 22) rfl)) (jWr_20 _ (List.mem_of_getElem? (i := 11) rfl))) rfl rfl rfl (by decide +kernel) ⟨by rw [← hR]; show (6) + 1 ≤ 2 * ef + 8; omega, by rw [← hR]; show 8 + (4 + 11) + (185) ≤ 130 * ef + 500; omega⟩) ⟨fun a U g mk q => by obtain ⟨q0, q1, q2, qK, q10, q11, q12, q13⟩ := q; exact ⟨q0, q1, q2, jG.calling g mk a qK, q10, q11, q12, q13⟩, hh_40.recv (C := RX4) (T := TX4) (N := 12) hB6 rfl (by decide) hg_r0 hK, fun U hU hW => ⟨rfl, hU, hh_40.2.1, hG.step hW hU hh_40.1, hg_r0, hg_rb, (hh_40.2.2.1.sub (L1 := [(r0, 6, 9, .ref rb), (r0, 6, 10, .int pe), (r0, 6, 11, .int pt)]) [1, 2, 3] rfl), by first | omega | (refine ⟨?_, ?_, ?_, ?_, ?_, ?_⟩ <;> (first | omega | rfl | assumption | decide | exact Or.inl rfl | exact Or.inr rfl | (simp only; omega)))⟩⟩ rfl rfl hl.1 rfl (lv_room (Nat.le_of_ble_eq_true rfl)) dX4_value_58 ⟨Nat.zero_le _, Nat.zero_le _⟩) hh_40.1 (fun q _ h => h) (fun q h => h) (fun r_43 u_42 t_42 H_42 locs_42 ht_42 hvm_42 hr_43 hb_42 hz_42 hk_42 hS_42 => ?_)
        obtain ⟨qt_42, rfl⟩ : ∃ z, z = u_42 := ⟨_, rfl⟩
        rw [ht_42] at hb_42
        obtain ⟨hb_421, hb_422, hb_423, hb_424, hb_425⟩ := hb_42
        have hh_42 : jSt (dC, dI) B base G0 G0 EX4_value s.heap 0 0 [(r0, 6, 11, .int qt_42), (r0, 6, 9, .ref rb), (r0, 6, 10, .int pe)] [] [] H_42 locs_42 := ((hh_40.call hb_421 hb_422 hb_423 hb_424 hS_42 rfl (L1 := [(r0, 6, 9, .ref rb), (r0, 6, 10, .int pe)]) [1, 2] rfl rfl (M1 := []) [] rfl rfl (I1 := []) [] rfl rfl).more hb_425)
        clear hh_40 ht_42 hvm_42 hz_42 hk_42 hS_42 hb_421 hb_422 hb_423 hb_424 hb_425
        obtain ⟨hr_43b, hr_43p⟩ := hr_43
        obtain ⟨hr_43p_0, hr_43p_1⟩ := hr_43p
        have hr_43' := jb_01 hr_43b
        refine lv_if_eq (tgt := 79) hx hb dX4_value_61 (by decide) (fun c_44 => ?_) (fun c_44 => ?_)
        · skip
          have c_44' : r_43.toInt = 0 := jb_eq (rfl) ((by decide)) c_44
          refine lv_iconst (v := (-1)) hx hb dX4_value_79 (by decide) ?_
          rw [hQ]
          exact W.iret (v := (-1)) hx hb hr (fun t ht hW => ⟨⟨(-1), qt_42, rfl, by first | omega | (refine ⟨?_, ?_, ?_, ?_, ?_⟩ <;> (first | omega | rfl | assumption | decide | exact Or.inl rfl | exact Or.inr rfl | (simp only; omega))), hh_42.rt (M1 := [(r0, 6, 11, .int qt_42)]) [0] rfl ht⟩, by rw [ht]; try exact hh_42.1.1, fun q h9 hq => by rw [ht]; try exact hh_42.1.2.1 q h9 hq⟩) hh_42.1.2.2 dX4_value_80
        · skip
          have c_44' : r_43.toInt ≠ 0 := jb_eq_n (rfl) ((by decide)) c_44
          refine lv_aload_n hx hb dX4_value_64 rfl (lv_at hl 2 rfl) ?_
          refine lv_iconst (v := 3) hx hb dX4_value_65 (by decide) ?_
          refine lv_iload_n hx hb dX4_value_66 rfl (lv_at hl 0 rfl) ?_
          refine lv_aload_n hx hb dX4_value_67 rfl (lv_at hl 2 rfl) ?_
          obtain ⟨v_45, hv_45, hh_46⟩ := hh_42.pin (C := RX4) (T := TX4) (N := 12) hB6 rfl (by decide) hg_r0 (i := 8) (by decide) rfl
          clear hh_42
          obtain ⟨unitCount_47, rfl, hlounitCount_47, hhiunitCount_47⟩ := hv_45
          refine j7_read hx hb hown hK (C := RX4) (T := TX4) (N := 12) rfl hly_6_8 hlk_53 (hh_46.at 0 rfl) dX4_value_68 ?_
          refine lv_iload_n hx hb dX4_value_71 rfl (lv_at hl 0 rfl) ?_
          refine lv_isub hx hb dX4_value_72 ?_
          refine lv_topi (fun z_48 ez_48 => ?_)
          have hz_48 : z_48.toInt = unitCount_47.toInt - unitCount_41.toInt := by rw [ez_48]; exact jb_isub2 (rfl) (rfl) (by omega)
          refine va_calli (A0 := jA base) (H0 := s.heap) (va_runV (As := [.int 3, .int unitCount_41, .int z_48]) (rest := []) ⟨hx, hb, hml, hown, hts⟩ (uX4_make l dC dI ca base B hB hAp hB6 hB140 hB141 hB142 hB143 hB144 hB145 G0 H_42 r0 3 unitCount_41 z_48) (cwV 3 hts (jgV (jWr_22 _ (List.mem_of_getElem? (i := 10) rfl)) (jWr_22 _ (List.mem_of_getElem? (i := 11) rfl)) (jWr_22 _ (List.mem_of_getElem? (i := 12) rfl)) (jWr_1 _ (List.mem_of_getElem? (i := 22) rfl)) (jWr_22 _ (List.mem_of_getElem? (i := 13) rfl))) rfl rfl rfl (by decide +kernel) ⟨by rw [← hR]; show (0) + 1 ≤ 2 * ef + 8; omega, by rw [← hR]; show 8 + (4 + 11) + (0) ≤ 130 * ef + 500; omega⟩) ⟨fun a U g mk q => by obtain ⟨q0, q1, q2, qK, q10, q11, q12⟩ := q; exact ⟨q0, q1, q2, jG.calling g mk a qK, q10, q11, q12⟩, hh_46.recv (C := RX4) (T := TX4) (N := 12) hB6 rfl (by decide) hg_r0 hK, fun U hU hW => ⟨rfl, hU, hh_46.2.1, hG.step hW hU hh_46.1, hg_r0, jP.nil, trivial⟩⟩ rfl rfl hl.1 rfl (lv_room (Nat.le_of_ble_eq_true rfl)) dX4_value_73 ⟨Nat.zero_le _, Nat.zero_le _⟩) hh_46.1 (fun q _ h => h) (fun q h => h) (fun r_50 u_49 t_49 H_49 locs_49 ht_49 hvm_49 hr_50 hb_49 hz_49 hk_49 hS_49 => ?_)
          rw [ht_49] at hb_49
          obtain ⟨hb_491, hb_492, hb_493, hb_494, hb_495⟩ := hb_49
          have hh_49 : jSt (dC, dI) B base G0 G0 EX4_value s.heap 0 0 [(r0, 6, 8, .int unitCount_47), (r0, 6, 11, .int qt_42), (r0, 6, 9, .ref rb), (r0, 6, 10, .int pe)] [] [] H_49 locs_49 := ((hh_46.call hb_491 hb_492 hb_493 hb_494 hS_49 rfl (L1 := [(r0, 6, 8, .int unitCount_47), (r0, 6, 11, .int qt_42), (r0, 6, 9, .ref rb), (r0, 6, 10, .int pe)]) [0, 1, 2, 3] rfl rfl (M1 := []) [] rfl rfl (I1 := []) [] rfl rfl).more hb_495)
          clear hh_46 ht_49 hvm_49 hz_49 hk_49 hS_49 hb_491 hb_492 hb_493 hb_494 hb_495
          obtain ⟨hr_50_0, hr_50_1⟩ := hr_50
          refine lv_goto (tgt := 80) hx hb dX4_value_76 (by decide) ?_
          rw [hQ]
          exact W.iret (v := r_50) hx hb hr (fun t ht hW => ⟨⟨r_50, qt_42, rfl, by first | omega | (refine ⟨?_, ?_, ?_, ?_, ?_⟩ <;> (first | omega | rfl | assumption | decide | exact Or.inl rfl | exact Or.inr rfl | (simp only; omega))), hh_49.rt (M1 := [(r0, 6, 11, .int qt_42)]) [1] rfl ht⟩, by rw [ht]; try exact hh_49.1.1, fun q h9 hq => by rw [ht]; try exact hh_49.1.2.1 q h9 hq⟩) hh_49.1.2.2 dX4_value_80
    · skip
      have c_11' : r_2.toInt = 91 := jb_ne_n (rfl) ((by decide)) c_11
      first | (have hr_2_2q := hr_2_2.resolve_left (by omega); clear hr_2_2) | (have hr_2_2q := hr_2_2.resolve_right (by omega); clear hr_2_2) | skip
      refine lv_iload_n hx hb dX4_value_17 rfl (lv_at hl 2 rfl) ?_
      refine lv_bipush (v := 10) hx hb dX4_value_18 (by decide) ?_
      refine lv_icmp_ge (tgt := 44) hx hb dX4_value_20 (by decide) (fun c_51 => ?_) (fun c_51 => ?_)
      · skip
        have c_51' : a1.toInt ≥ 10 := jb_ge (rfl) ((by decide)) c_51
        refine lv_iconst (v := (-1)) hx hb dX4_value_44 (by decide) ?_
        rw [hQ]
        exact W.iret (v := (-1)) hx hb hr (fun t ht hW => ⟨⟨(-1), pt, rfl, by first | omega | (refine ⟨?_, ?_, ?_, ?_, ?_⟩ <;> (first | omega | rfl | assumption | decide | exact Or.inl rfl | exact Or.inr rfl | (simp only; omega))), hh_1.rt (M1 := [(r0, 6, 11, .int pt)]) [2] rfl ht⟩, by rw [ht]; try exact hh_1.1.1, fun q h9 hq => by rw [ht]; try exact hh_1.1.2.1 q h9 hq⟩) hh_1.1.2.2 dX4_value_45
      · skip
        have c_51' : a1.toInt < 10 := jb_ge_n (rfl) ((by decide)) c_51
        refine lv_aload_n hx hb dX4_value_23 rfl (lv_at hl 1 rfl) ?_
        refine lv_iload_n hx hb dX4_value_24 rfl (lv_at hl 2 rfl) ?_
        refine lv_iconst (v := 1) hx hb dX4_value_25 (by decide) ?_
        refine lv_iadd hx hb dX4_value_26 ?_
        refine lv_topi (fun z_52 ez_52 => ?_)
        have hz_52 : z_52.toInt = a1.toInt + 1 := by rw [ez_52]; exact jb_iadd2 (rfl) ((by decide)) (by omega)
        refine lv_iload_n hx hb dX4_value_27 rfl (lv_at hl 0 rfl) ?_
        refine lv_bipush (v := 123) hx hb dX4_value_28 (by decide) ?_
        refine lv_icmp_ne (tgt := 37) hx hb dX4_value_30 (by decide) (fun c_53 => ?_) (fun c_53 => ?_)
        · skip
          have c_53' : r_2.toInt ≠ 123 := jb_ne (rfl) ((by decide)) c_53
          refine lv_iconst (v := 0) hx hb dX4_value_37 (by decide) ?_
          refine va_calli (A0 := jA base) (H0 := s.heap) (va_runV (As := [.int z_52, .int 0]) (rest := []) ⟨hx, hb, hml, hown, hts⟩ (ihM (ef - 1) (by omega) G0 H_1 r0 z_52 0 rb n_rb pe pt) (cwV 2 hts (jgV (jWr_20 _ (List.mem_of_getElem? (i := 5) rfl)) (jWr_20 _ (List.mem_of_getElem? (i := 6) rfl)) (jWr_20 _ (List.mem_of_getElem? (i := 7) rfl)) (jWr_1 _ (List.mem_of_getElem? (i := 22) rfl)) (jWr_23 _ (List.mem_of_getElem? (i := 5) rfl))) rfl rfl rfl (by decide +kernel) ⟨by rw [← hR]; show (2 * (ef - 1) + 9) + 1 ≤ 2 * ef + 8; omega, by rw [← hR]; show 8 + (11 + 11) + (130 * (ef - 1) + 560) ≤ 130 * ef + 500; omega⟩) ⟨fun a U g mk q => by obtain ⟨q0, q1, q2, qK, q10, q11, q12, q13⟩ := q; exact ⟨q0, q1, q2, jG.calling g mk a qK, q10, q11, q12, q13⟩, hh_1.recv (C := RX4) (T := TX4) (N := 12) hB6 rfl (by decide) hg_r0 hK, fun U hU hW => ⟨rfl, hU, hh_1.2.1, hG.step hW hU hh_1.1, hg_r0, hg_rb, (hh_1.2.2.1.sub (L1 := [(r0, 6, 9, .ref rb), (r0, 6, 10, .int pe), (r0, 6, 11, .int pt)]) [0, 1, 2] rfl), by first | omega | (refine ⟨?_, ?_, ?_, ?_, ?_, ?_, ?_, ?_⟩ <;> (first | omega | rfl | assumption | decide | exact Or.inl rfl | exact Or.inr rfl | (simp only; omega)))⟩⟩ rfl rfl hl.1 rfl (lv_room (Nat.le_of_ble_eq_true rfl)) dX4_value_38 ⟨Nat.zero_le _, Nat.zero_le _⟩) hh_1.1 (fun q _ h => h) (fun q h => h) (fun r_55 u_54 t_54 H_54 locs_54 ht_54 hvm_54 hr_55 hb_54 hz_54 hk_54 hS_54 => ?_)
          obtain ⟨qt_54, rfl⟩ : ∃ z, z = u_54 := ⟨_, rfl⟩
          rw [ht_54] at hb_54
          obtain ⟨hb_541, hb_542, hb_543, hb_544, hb_545⟩ := hb_54
          have hh_54 : jSt (dC, dI) B base G0 G0 EX4_value s.heap 0 0 [(r0, 6, 11, .int qt_54), (r0, 6, 9, .ref rb), (r0, 6, 10, .int pe)] [] [] H_54 locs_54 := ((hh_1.call hb_541 hb_542 hb_543 hb_544 hS_54 rfl (L1 := [(r0, 6, 9, .ref rb), (r0, 6, 10, .int pe)]) [0, 1] rfl rfl (M1 := []) [] rfl rfl (I1 := []) [] rfl rfl).more hb_545)
          clear hh_1 ht_54 hvm_54 hz_54 hk_54 hS_54 hb_541 hb_542 hb_543 hb_544 hb_545
          obtain ⟨hr_55_0, hr_55_1, hr_55_2, hr_55_3, hr_55_4⟩ := hr_55
          refine lv_goto (tgt := 45) hx hb dX4_value_41 (by decide) ?_
          rw [hQ]
          exact W.iret (v := r_55) hx hb hr (fun t ht hW => ⟨⟨r_55, qt_54, rfl, by first | omega | (refine ⟨?_, ?_, ?_, ?_, ?_⟩ <;> (first | omega | rfl | assumption | decide | exact Or.inl rfl | exact Or.inr rfl | (simp only; omega))), hh_54.rt (M1 := [(r0, 6, 11, .int qt_54)]) [0] rfl ht⟩, by rw [ht]; try exact hh_54.1.1, fun q h9 hq => by rw [ht]; try exact hh_54.1.2.1 q h9 hq⟩) hh_54.1.2.2 dX4_value_45
        · skip
          have c_53' : r_2.toInt = 123 := jb_ne_n (rfl) ((by decide)) c_53
          first | (have hr_2_2q := hr_2_2.resolve_left (by omega); clear hr_2_2) | (have hr_2_2q := hr_2_2.resolve_right (by omega); clear hr_2_2) | skip
          refine lv_iconst (v := 1) hx hb dX4_value_33 (by decide) ?_
          refine lv_goto (tgt := 38) hx hb dX4_value_34 (by decide) ?_
          refine va_calli (A0 := jA base) (H0 := s.heap) (va_runV (As := [.int z_52, .int 1]) (rest := []) ⟨hx, hb, hml, hown, hts⟩ (ihM (ef - 1) (by omega) G0 H_1 r0 z_52 1 rb n_rb pe pt) (cwV 2 hts (jgV (jWr_20 _ (List.mem_of_getElem? (i := 5) rfl)) (jWr_20 _ (List.mem_of_getElem? (i := 6) rfl)) (jWr_20 _ (List.mem_of_getElem? (i := 7) rfl)) (jWr_1 _ (List.mem_of_getElem? (i := 22) rfl)) (jWr_23 _ (List.mem_of_getElem? (i := 5) rfl))) rfl rfl rfl (by decide +kernel) ⟨by rw [← hR]; show (2 * (ef - 1) + 9) + 1 ≤ 2 * ef + 8; omega, by rw [← hR]; show 8 + (11 + 11) + (130 * (ef - 1) + 560) ≤ 130 * ef + 500; omega⟩) ⟨fun a U g mk q => by obtain ⟨q0, q1, q2, qK, q10, q11, q12, q13⟩ := q; exact ⟨q0, q1, q2, jG.calling g mk a qK, q10, q11, q12, q13⟩, hh_1.recv (C := RX4) (T := TX4) (N := 12) hB6 rfl (by decide) hg_r0 hK, fun U hU hW => ⟨rfl, hU, hh_1.2.1, hG.step hW hU hh_1.1, hg_r0, hg_rb, (hh_1.2.2.1.sub (L1 := [(r0, 6, 9, .ref rb), (r0, 6, 10, .int pe), (r0, 6, 11, .int pt)]) [0, 1, 2] rfl), by first | omega | (refine ⟨?_, ?_, ?_, ?_, ?_, ?_, ?_, ?_⟩ <;> (first | omega | rfl | assumption | decide | exact Or.inl rfl | exact Or.inr rfl | (simp only; omega)))⟩⟩ rfl rfl hl.1 rfl (lv_room (Nat.le_of_ble_eq_true rfl)) dX4_value_38 ⟨Nat.zero_le _, Nat.zero_le _⟩) hh_1.1 (fun q _ h => h) (fun q h => h) (fun r_57 u_56 t_56 H_56 locs_56 ht_56 hvm_56 hr_57 hb_56 hz_56 hk_56 hS_56 => ?_)
          obtain ⟨qt_56, rfl⟩ : ∃ z, z = u_56 := ⟨_, rfl⟩
          rw [ht_56] at hb_56
          obtain ⟨hb_561, hb_562, hb_563, hb_564, hb_565⟩ := hb_56
          have hh_56 : jSt (dC, dI) B base G0 G0 EX4_value s.heap 0 0 [(r0, 6, 11, .int qt_56), (r0, 6, 9, .ref rb), (r0, 6, 10, .int pe)] [] [] H_56 locs_56 := ((hh_1.call hb_561 hb_562 hb_563 hb_564 hS_56 rfl (L1 := [(r0, 6, 9, .ref rb), (r0, 6, 10, .int pe)]) [0, 1] rfl rfl (M1 := []) [] rfl rfl (I1 := []) [] rfl rfl).more hb_565)
          clear hh_1 ht_56 hvm_56 hz_56 hk_56 hS_56 hb_561 hb_562 hb_563 hb_564 hb_565
          obtain ⟨hr_57_0, hr_57_1, hr_57_2, hr_57_3, hr_57_4⟩ := hr_57
          refine lv_goto (tgt := 45) hx hb dX4_value_41 (by decide) ?_
          rw [hQ]
          exact W.iret (v := r_57) hx hb hr (fun t ht hW => ⟨⟨r_57, qt_56, rfl, by first | omega | (refine ⟨?_, ?_, ?_, ?_, ?_⟩ <;> (first | omega | rfl | assumption | decide | exact Or.inl rfl | exact Or.inr rfl | (simp only; omega))), hh_56.rt (M1 := [(r0, 6, 11, .int qt_56)]) [0] rfl ht⟩, by rw [ht]; try exact hh_56.1.1, fun q h9 hq => by rw [ht]; try exact hh_56.1.2.1 q h9 hq⟩) hh_56.1.2.2 dX4_value_45
set_option maxHeartbeats 4000000 in
set_option maxRecDepth 20000 in
theorem uX4_holder (l : Launch) (dC : Nat → ClassId) (dI : Nat → Nat → Nat) (ca : Nat → ClassId) (base : Nat) (B : jF) (hB : jBok B) (hAp : jAp (dC, dI)) (hB6 : ∀ n G a H, B 6 n G a H ↔ jOb (dC, dI) 6 12 (F6 n G) a H) (hB100 : ∀ n G a H, B 100 n G a H ↔ jAr (dC, dI) (ca 0) (fun j z => True) n a H) (hB140 : ∀ n G a H, B 140 n G a H ↔ jAr (dC, dI) (ca 1) (fun j z => True) n a H) (hB141 : ∀ n G a H, B 141 n G a H ↔ jAr (dC, dI) (ca 1) (fun j z => True) n a H) (hB142 : ∀ n G a H, B 142 n G a H ↔ jAr (dC, dI) (ca 1) (fun j z => True) n a H) (hB143 : ∀ n G a H, B 143 n G a H ↔ jAr (dC, dI) (ca 1) (fun j z => True) n a H) (hB144 : ∀ n G a H, B 144 n G a H ↔ jAr (dC, dI) (ca 1) (fun j z => 0 ≤ z.toInt ∧ z.toInt ≤ 3000) n a H) (hB145 : ∀ n G a H, B 145 n G a H ↔ jAr (dC, dI) (ca 1) (fun j z => True) n a H) (hB146 : ∀ n G a H, B 146 n G a H ↔ jAr (dC, dI) (ca 1) (fun j z => True) n a H) (ef : Nat) (hV : qX4_value l dC dI ca base B ef) (G0 : jT) (H0 : Heap) (r0 : Nat) (a1 : Int32) (a2 : Int32) (rb : Nat) (n_rb : Nat) (pe : Int32) (pt : Int32) : Met l yX4_holder (jw yX4_holder cX4_holder 11 (some .int)) ({ frames := 2 * ef + 9, cells := 0, slots := 0, locals := 130 * ef + 560 }) (va_Pc [.ref r0, .int a1, .int a2] (fun U => U.heap = H0 ∧ jX B base G0 [] H0 ∧ jG dC dI ca base U ∧ G0 r0 = some (6, 0) ∧ G0 rb = some (100, n_rb) ∧ jP (dC, dI) G0 H0 [(r0, 6, 9, .ref rb), (r0, 6, 10, .int pe), (r0, 6, 11, .int pt)] ∧ 0 ≤ pe.toInt ∧ pe.toInt ≤ n_rb ∧ n_rb ≤ 3000 ∧ 0 ≤ pt.toInt ∧ pt.toInt ≤ 19000 ∧ pt.toInt < pe.toInt ∧ a1.toInt = 10 - ef ∧ ef ≤ 10)) (va_Qi (S := Int32) (fun r u => (-1 ≤ r.toInt ∧ r.toInt ≤ 1501 ∧ pt.toInt ≤ u.toInt ∧ u.toInt ≤ pe.toInt + 4 ∧ (r.toInt = -1 ∨ u.toInt ≤ pe.toInt))) (fun u t => jRt (dC, dI) B base G0 EX4_holder H0 [(r0, 6, 11, .int u)] t.heap) (jA base)) 0 0 (jA base) := by
  refine Met.ofW (cc := cX4_holder) (maxL := 11) (ret := (some .int)) (by decide) rfl ?_
  intro p e s m args below meth c s₁ Bd hml hv
  obtain ⟨rfl, hH0, hX, hG, hg_r0, hg_rb, hP0, hp0, hp1, hp2, hp3, hp4, hp5, hp6, hp7⟩ := hv
  have hK := hG.1
  have hx := Bd.exec
  have hb := Bd.bytes
  have hr := Bd.returns
  have hts := atoms_spec (ws := (jw yX4_holder cX4_holder 11 (some .int))) Bd.pre
  have htw : ∀ w ∈ jWl, w.before _ s = true := fun w h => hts w (List.mem_cons_of_mem _ h)
  have hown : s.vm.findClass RX4 = some m.cls := findClass_of_methodNamed Bd.named
  have hlocks := Bd.notSynchronized
  obtain ⟨Q, hQ⟩ : ∃ Q, Q = MQ below (va_Qi (S := Int32) (fun r u => (-1 ≤ r.toInt ∧ r.toInt ≤ 1501 ∧ pt.toInt ≤ u.toInt ∧ u.toInt ≤ pe.toInt + 4 ∧ (r.toInt = -1 ∨ u.toInt ≤ pe.toInt))) (fun u t => jRt (dC, dI) B base G0 EX4_holder H0 [(r0, 6, 11, .int u)] t.heap) (jA base)) ([.ref r0, .int a1, .int a2] : List Value).toArray s 0 0 (jA base) := ⟨_, rfl⟩
  rw [← hQ]
  have hl := lv_entry ([.ref r0, .int a1, .int a2]) (n := 11) (Nat.le_of_ble_eq_true rfl)
  rw [lg_entry_eq]
  generalize (lg_sl ([.ref r0, .int a1, .int a2]) ++ List.replicate (11 - (lg_sl ([.ref r0, .int a1, .int a2])).length) Slot.unset).toArray = ls at hl ⊢
  have hl : lv_has ls 11 [(0, .ref r0), (1, .int a1), (2, .int a2)] := hl
  generalize hR : (headSpec (jw yX4_holder cX4_holder 11 (some .int)) ({ frames := 2 * ef + 9, cells := 0, slots := 0, locals := 130 * ef + 560 })).room = R
  subst hH0
  have hh : jSt (dC, dI) B base G0 G0 EX4_holder s.heap 0 0 [(r0, 6, 9, .ref rb), (r0, 6, 10, .int pe), (r0, 6, 11, .int pt)] [] [] s.heap [] := jSt.start hX hP0 jMc.nil jIs.nil
  clear hX hP0
  have hkm1 : ((-1) : Int32).toInt = (-1) := by decide
  have hk0 : (0 : Int32).toInt = 0 := by decide
  have hk1 : (1 : Int32).toInt = 1 := by decide
  have hk2 : (2 : Int32).toInt = 2 := by decide
  have hk44 : (44 : Int32).toInt = 44 := by decide
  have hk93 : (93 : Int32).toInt = 93 := by decide
  have hk125 : (125 : Int32).toInt = 125 := by decide
  have hk1502 : (1502 : Int32).toInt = 1502 := by decide
  have hly_6_1 := htw (u_lay RX4 TX4 1) (jWc_wsX40 _ (u_in_lay (by decide)))
  have hly_6_2 := htw (u_lay RX4 TX4 2) (jWc_wsX40 _ (u_in_lay (by decide)))
  have hly_6_3 := htw (u_lay RX4 TX4 3) (jWc_wsX40 _ (u_in_lay (by decide)))
  have hly_6_4 := htw (u_lay RX4 TX4 4) (jWc_wsX40 _ (u_in_lay (by decide)))
  have hly_6_5 := htw (u_lay RX4 TX4 5) (jWc_wsX40 _ (u_in_lay (by decide)))
  have hly_6_8 := htw (u_lay RX4 TX4 8) (jWc_wsX40 _ (u_in_lay (by decide)))
  have hly_6_11 := htw (u_lay RX4 TX4 11) (jWc_wsX40 _ (u_in_lay (by decide)))
  have hlk_47 := (htw (.fieldLink RX4 47 "ProofServer$Json" "at" "I") (jWr_19 _ (List.mem_of_getElem? (i := 12) rfl)))
  have hlk_53 := (htw (.fieldLink RX4 53 "ProofServer$Json" "unitCount" "I") (jWr_19 _ (List.mem_of_getElem? (i := 14) rfl)))
  have hlk_24 := (htw (.fieldLink RX4 24 "ProofServer$Json" "keyFirsts" "[I") (jWr_4 _ (List.mem_of_getElem? (i := 1) rfl)))
  have hlk_27 := (htw (.fieldLink RX4 27 "ProofServer$Json" "keySizes" "[I") (jWr_4 _ (List.mem_of_getElem? (i := 2) rfl)))
  have hlk_15 := (htw (.fieldLink RX4 15 "ProofServer$Json" "firsts" "[I") (jWr_3 _ (List.mem_of_getElem? (i := 22) rfl)))
  have hlk_21 := (htw (.fieldLink RX4 21 "ProofServer$Json" "nexts" "[I") (jWr_4 _ (List.mem_of_getElem? (i := 0) rfl)))
  have hlk_18 := (htw (.fieldLink RX4 18 "ProofServer$Json" "sizes" "[I") (jWr_3 _ (List.mem_of_getElem? (i := 23) rfl)))
  have hrg_a1 := jb_rng a1
  have hrg_a2 := jb_rng a2
  refine lv_aload_n hx hb dX4_holder_0 rfl (lv_at hl 0 rfl) ?_
  refine lv_iload_n hx hb dX4_holder_1 rfl (lv_at hl 2 rfl) ?_
  have C10 : ∀ (w0_1 : Int32) (H_1 : Heap) (locs_1 : List Loc), jSt (dC, dI) B base G0 G0 EX4_holder s.heap 0 0 [(r0, 6, 9, .ref rb), (r0, 6, 10, .int pe), (r0, 6, 11, .int pt)] [] [] H_1 locs_1 → (True) → ∀ ls : Array Slot, lv_has ls 11 [(0, .ref r0), (1, .int a1), (2, .int a2)] → W p l e R s m ([.ref r0, .int a1, .int a2] : List Value).toArray below meth c H_1 locs_1 0 0 Q (F0 m 10 ls [.int w0_1, .ref r0]) := by
    intro w0_1 H_1 locs_1 hh_1  hi_1 ls hl
    refine lv_iconst (v := (-1)) hx hb dX4_holder_10 (by decide) ?_
    refine lv_iconst (v := 0) hx hb dX4_holder_11 (by decide) ?_
    refine va_calli (A0 := jA base) (H0 := s.heap) (va_runV (As := [.int w0_1, .int (-1), .int 0]) (rest := []) ⟨hx, hb, hml, hown, hts⟩ (uX4_make l dC dI ca base B hB hAp hB6 hB140 hB141 hB142 hB143 hB144 hB145 G0 H_1 r0 w0_1 (-1) 0) (cwV 3 hts (jgV (jWr_22 _ (List.mem_of_getElem? (i := 10) rfl)) (jWr_22 _ (List.mem_of_getElem? (i := 11) rfl)) (jWr_22 _ (List.mem_of_getElem? (i := 12) rfl)) (jWr_1 _ (List.mem_of_getElem? (i := 22) rfl)) (jWr_22 _ (List.mem_of_getElem? (i := 13) rfl))) rfl rfl rfl (by decide +kernel) ⟨by rw [← hR]; show (0) + 1 ≤ 2 * ef + 9; omega, by rw [← hR]; show 8 + (4 + 11) + (0) ≤ 130 * ef + 560; omega⟩) ⟨fun a U g mk q => by obtain ⟨q0, q1, q2, qK, q10, q11, q12⟩ := q; exact ⟨q0, q1, q2, jG.calling g mk a qK, q10, q11, q12⟩, hh_1.recv (C := RX4) (T := TX4) (N := 12) hB6 rfl (by decide) hg_r0 hK, fun U hU hW => ⟨rfl, hU, hh_1.2.1, hG.step hW hU hh_1.1, hg_r0, jP.nil, trivial⟩⟩ rfl rfl hl.1 rfl (lv_room (Nat.le_of_ble_eq_true rfl)) dX4_holder_12 ⟨Nat.zero_le _, Nat.zero_le _⟩) hh_1.1 (fun q _ h => h) (fun q h => h) (fun r_3 u_2 t_2 H_2 locs_2 ht_2 hvm_2 hr_3 hb_2 hz_2 hk_2 hS_2 => ?_)
    rw [ht_2] at hb_2
    obtain ⟨hb_21, hb_22, hb_23, hb_24, hb_25⟩ := hb_2
    have hh_2 : jSt (dC, dI) B base G0 G0 EX4_holder s.heap 0 0 [(r0, 6, 9, .ref rb), (r0, 6, 10, .int pe), (r0, 6, 11, .int pt)] [] [] H_2 locs_2 := ((hh_1.call hb_21 hb_22 hb_23 hb_24 hS_2 rfl (L1 := [(r0, 6, 9, .ref rb), (r0, 6, 10, .int pe), (r0, 6, 11, .int pt)]) [0, 1, 2] rfl rfl (M1 := []) [] rfl rfl (I1 := []) [] rfl rfl).more hb_25)
    clear hh_1 ht_2 hvm_2 hz_2 hk_2 hS_2 hb_21 hb_22 hb_23 hb_24 hb_25
    obtain ⟨hr_3_0, hr_3_1⟩ := hr_3
    refine lv_istore_n (lv' := [(3, .int r_3), (0, .ref r0), (1, .int a1), (2, .int a2)]) hx hb dX4_holder_15 rfl hl (by decide) rfl (fun ls hl => ?_)
    refine lv_iload_n hx hb dX4_holder_16 rfl (lv_at hl 3 rfl) ?_
    have C27 : ∀ (w0_4 : Int32) (H_4 : Heap) (locs_4 : List Loc), jSt (dC, dI) B base G0 G0 EX4_holder s.heap 0 0 [(r0, 6, 9, .ref rb), (r0, 6, 10, .int pe), (r0, 6, 11, .int pt)] [] [] H_4 locs_4 → (93 ≤ w0_4.toInt ∧ w0_4.toInt ≤ 125) → ∀ ls : Array Slot, lv_has ls 11 [(0, .ref r0), (1, .int a1), (2, .int a2), (3, .int r_3)] → W p l e R s m ([.ref r0, .int a1, .int a2] : List Value).toArray below meth c H_4 locs_4 0 0 Q (F0 m 27 ls [.int w0_4]) := by
      intro w0_4 H_4 locs_4 hh_4  hi_4 ls hl
      obtain ⟨hi_4_0, hi_4_1⟩ := hi_4
      refine lv_istore (lv' := [(4, .int w0_4), (0, .ref r0), (1, .int a1), (2, .int a2), (3, .int r_3)]) hx hb dX4_holder_27 hl (by decide) rfl (fun ls hl => ?_)
      refine lv_aload_n hx hb dX4_holder_29 rfl (lv_at hl 1 rfl) ?_
      refine lv_dup hx hb dX4_holder_30 rfl ?_
      refine j7_read hx hb hown hK (C := RX4) (T := TX4) (N := 12) rfl hly_6_11 hlk_47 (hh_4.at 2 rfl) dX4_holder_31 ?_
      refine lv_iconst (v := 1) hx hb dX4_holder_34 (by decide) ?_
      refine lv_iadd hx hb dX4_holder_35 ?_
      refine lv_topi (fun z_5 ez_5 => ?_)
      have hz_5 : z_5.toInt = pt.toInt + 1 := by rw [ez_5]; exact jb_iadd2 (rfl) ((by decide)) (by omega)
      refine j7_put hx hb hown hK hh_4 hB hAp hB6 (C := RX4) (T := TX4) (N := 12) rfl (by decide) hg_r0 (i := 11) (by decide) hly_6_11 rfl hlk_47 rfl (ty := .int) (v := .int z_5) (by decide +kernel) rfl rfl (⟨_, rfl, by omega, by omega⟩) rfl (L1 := [(r0, 6, 9, .ref rb), (r0, 6, 10, .int pe)]) [0, 1] rfl rfl rfl dX4_holder_36 (fun H_6 locs_6 hh_6 => ?_)
      clear hh_4
      refine lv_aload_n hx hb dX4_holder_39 rfl (lv_at hl 1 rfl) ?_
      refine va_callv (A0 := jA base) (H0 := s.heap) (va_runV (As := []) (rest := []) ⟨hx, hb, hml, hown, hts⟩ (uX4_skipBlanks l dC dI ca base B hB hAp hB6 hB100 G0 H_6 r0 rb n_rb pe z_5 pe.toInt) (cwV 0 hts (jgV (jWr_19 _ (List.mem_of_getElem? (i := 15) rfl)) (jWr_19 _ (List.mem_of_getElem? (i := 16) rfl)) (jWr_19 _ (List.mem_of_getElem? (i := 17) rfl)) (jWr_1 _ (List.mem_of_getElem? (i := 22) rfl)) (jWr_19 _ (List.mem_of_getElem? (i := 18) rfl))) rfl rfl rfl (by decide +kernel) ⟨by rw [← hR]; show (1) + 1 ≤ 2 * ef + 9; omega, by rw [← hR]; show 8 + (1 + 11) + (20) ≤ 130 * ef + 560; omega⟩) ⟨fun a U g mk q => by obtain ⟨q0, q1, q2, qK, q10, q11, q12, q13⟩ := q; exact ⟨q0, q1, q2, jG.calling g mk a qK, q10, q11, q12, q13⟩, hh_6.recv (C := RX4) (T := TX4) (N := 12) hB6 rfl (by decide) hg_r0 hK, fun U hU hW => ⟨rfl, hU, hh_6.2.1, hG.step hW hU hh_6.1, hg_r0, hg_rb, (hh_6.2.2.1.sub (L1 := [(r0, 6, 9, .ref rb), (r0, 6, 10, .int pe), (r0, 6, 11, .int z_5)]) [1, 2, 0] rfl), by first | omega | (refine ⟨?_, ?_, ?_, ?_, ?_, ?_, ?_, ?_⟩ <;> (first | omega | rfl | assumption | decide | exact Or.inl rfl | exact Or.inr rfl | (simp only; omega)))⟩⟩ rfl rfl hl.1 rfl (lv_room (Nat.le_of_ble_eq_true rfl)) dX4_holder_40 ⟨Nat.zero_le _, Nat.zero_le _⟩) hh_6.1 (fun q _ h => h) (fun q h => h) (fun u_7 t_7 H_7 locs_7 ht_7 hvm_7 hr_8 hb_7 hz_7 hk_7 hS_7 => ?_)
      obtain ⟨qt_7, rfl⟩ : ∃ z, z = u_7 := ⟨_, rfl⟩
      rw [ht_7] at hb_7
      obtain ⟨hb_71, hb_72, hb_73, hb_74, hb_75⟩ := hb_7
      have hh_7 : jSt (dC, dI) B base G0 G0 EX4_holder s.heap 0 0 [(r0, 6, 11, .int qt_7), (r0, 6, 9, .ref rb), (r0, 6, 10, .int pe)] [] [] H_7 locs_7 := ((hh_6.call hb_71 hb_72 hb_73 hb_74 hS_7 rfl (L1 := [(r0, 6, 9, .ref rb), (r0, 6, 10, .int pe)]) [1, 2] rfl rfl (M1 := []) [] rfl rfl (I1 := []) [] rfl rfl).more hb_75)
      clear hh_6 ht_7 hvm_7 hz_7 hk_7 hS_7 hb_71 hb_72 hb_73 hb_74 hb_75
      obtain ⟨hr_8_0, hr_8_1⟩ := hr_8
      refine lv_aload_n hx hb dX4_holder_43 rfl (lv_at hl 1 rfl) ?_
      refine va_calli (A0 := jA base) (H0 := s.heap) (va_runV (As := []) (rest := []) ⟨hx, hb, hml, hown, hts⟩ (uX4_peek l dC dI ca base B hB hAp hB6 hB100 G0 H_7 r0 rb n_rb pe qt_7) (cwV 0 hts (jgV (jWr_19 _ (List.mem_of_getElem? (i := 19) rfl)) (jWr_19 _ (List.mem_of_getElem? (i := 20) rfl)) (jWr_19 _ (List.mem_of_getElem? (i := 21) rfl)) (jWr_1 _ (List.mem_of_getElem? (i := 22) rfl)) (jWr_19 _ (List.mem_of_getElem? (i := 22) rfl))) rfl rfl rfl (by decide +kernel) ⟨by rw [← hR]; show (0) + 1 ≤ 2 * ef + 9; omega, by rw [← hR]; show 8 + (1 + 11) + (0) ≤ 130 * ef + 560; omega⟩) ⟨fun a U g mk q => by obtain ⟨q0, q1, q2, qK, q10, q11, q12, q13⟩ := q; exact ⟨q0, q1, q2, jG.calling g mk a qK, q10, q11, q12, q13⟩, hh_7.recv (C := RX4) (T := TX4) (N := 12) hB6 rfl (by decide) hg_r0 hK, fun U hU hW => ⟨rfl, hU, hh_7.2.1, hG.step hW hU hh_7.1, hg_r0, hg_rb, (hh_7.2.2.1.sub (L1 := [(r0, 6, 9, .ref rb), (r0, 6, 10, .int pe), (r0, 6, 11, .int qt_7)]) [1, 2, 0] rfl), by first | omega | (refine ⟨?_, ?_, ?_, ?_, ?_⟩ <;> (first | omega | rfl | assumption | decide | exact Or.inl rfl | exact Or.inr rfl | (simp only; omega)))⟩⟩ rfl rfl hl.1 rfl (lv_room (Nat.le_of_ble_eq_true rfl)) dX4_holder_44 ⟨Nat.zero_le _, Nat.zero_le _⟩) hh_7.1 (fun q _ h => h) (fun q h => h) (fun r_10 u_9 t_9 H_9 locs_9 ht_9 hvm_9 hr_10 hb_9 hz_9 hk_9 hS_9 => ?_)
      rw [ht_9] at hb_9
      obtain ⟨hb_91, hb_92, hb_93, hb_94, hb_95⟩ := hb_9
      have hh_9 : jSt (dC, dI) B base G0 G0 EX4_holder s.heap 0 0 [(r0, 6, 11, .int qt_7), (r0, 6, 9, .ref rb), (r0, 6, 10, .int pe)] [] [] H_9 locs_9 := ((hh_7.call hb_91 hb_92 hb_93 hb_94 hS_9 rfl (L1 := [(r0, 6, 11, .int qt_7), (r0, 6, 9, .ref rb), (r0, 6, 10, .int pe)]) [0, 1, 2] rfl rfl (M1 := []) [] rfl rfl (I1 := []) [] rfl rfl).more hb_95)
      clear hh_7 ht_9 hvm_9 hz_9 hk_9 hS_9 hb_91 hb_92 hb_93 hb_94 hb_95
      obtain ⟨hr_10_0, hr_10_1, hr_10_2⟩ := hr_10
      refine lv_iload hx hb dX4_holder_47 (lv_at hl 0 rfl) ?_
      refine lv_icmp_ne (tgt := 64) hx hb dX4_holder_49 (by decide) (fun c_11 => ?_) (fun c_11 => ?_)
      · skip
        have c_11' : r_10.toInt ≠ w0_4.toInt := jb_ne (rfl) (rfl) c_11
        try clear hr_10_2
        refine lv_iconst (v := (-1)) hx hb dX4_holder_64 (by decide) ?_
        refine lv_istore (lv' := [(5, .int (-1)), (4, .int w0_4), (0, .ref r0), (1, .int a1), (2, .int a2), (3, .int r_3)]) hx hb dX4_holder_65 hl (by decide) rfl (fun ls hl => ?_)
        refine lv_iconst (v := 0) hx hb dX4_holder_67 (by decide) ?_
        refine lv_istore (lv' := [(6, .int 0), (5, .int (-1)), (4, .int w0_4), (0, .ref r0), (1, .int a1), (2, .int a2), (3, .int r_3)]) hx hb dX4_holder_68 hl (by decide) rfl (fun ls hl => ?_)
        have L70 : ∀ (N : Nat) (v5_12 : Int32) (v6_12 : Int32) (wt_12 : Int32) (H_12 : Heap) (locs_12 : List Loc), jSt (dC, dI) B base G0 G0 EX4_holder s.heap 0 0 [(r0, 6, 11, .int wt_12), (r0, 6, 9, .ref rb), (r0, 6, 10, .int pe)] [] [] H_12 locs_12 → (-1 ≤ v5_12.toInt ∧ v5_12.toInt ≤ 1501 ∧ 0 ≤ v6_12.toInt ∧ v6_12.toInt ≤ 1502 ∧ pt.toInt ≤ wt_12.toInt ∧ wt_12.toInt ≤ pe.toInt) → (1502 - v6_12.toInt : Int) < N → ∀ ls : Array Slot, lv_has ls 11 [(0, .ref r0), (1, .int a1), (2, .int a2), (3, .int r_3), (4, .int w0_4), (5, .int v5_12), (6, .int v6_12)] → W p l e R s m ([.ref r0, .int a1, .int a2] : List Value).toArray below meth c H_12 locs_12 0 0 Q (F0 m 70 ls []) := by
          intro N
          induction N with
          | zero => intro v5_12 v6_12 wt_12 H_12 locs_12 hh_12  hi_12 hm; exact absurd hm (by omega)
          | succ N L70 =>
            intro v5_12 v6_12 wt_12 H_12 locs_12 hh_12  hi_12 hm_12 ls hl
            obtain ⟨hi_12_0, hi_12_1, hi_12_2, hi_12_3, hi_12_4, hi_12_5⟩ := hi_12
            refine lv_iload hx hb dX4_holder_70 (lv_at hl 6 rfl) ?_
            refine lv_sipush (v := 1502) hx hb dX4_holder_72 (by decide) ?_
            refine lv_icmp_ge (tgt := 244) hx hb dX4_holder_75 (by decide) (fun c_13 => ?_) (fun c_13 => ?_)
            · skip
              have c_13' : v6_12.toInt ≥ 1502 := jb_ge (rfl) ((by decide)) c_13
              refine lv_iconst (v := (-1)) hx hb dX4_holder_244 (by decide) ?_
              rw [hQ]
              exact W.iret (v := (-1)) hx hb hr (fun t ht hW => ⟨⟨(-1), wt_12, rfl, by first | omega | (refine ⟨?_, ?_, ?_, ?_, ?_⟩ <;> (first | omega | rfl | assumption | decide | exact Or.inl rfl | exact Or.inr rfl | (simp only; omega))), hh_12.rt (M1 := [(r0, 6, 11, .int wt_12)]) [0] rfl ht⟩, by rw [ht]; try exact hh_12.1.1, fun q h9 hq => by rw [ht]; try exact hh_12.1.2.1 q h9 hq⟩) hh_12.1.2.2 dX4_holder_245
            · skip
              have c_13' : v6_12.toInt < 1502 := jb_ge_n (rfl) ((by decide)) c_13
              refine lv_iload_n hx hb dX4_holder_78 rfl (lv_at hl 3 rfl) ?_
              refine lv_if_lt (tgt := 244) hx hb dX4_holder_79 (by decide) (fun c_14 => ?_) (fun c_14 => ?_)
              · skip
                have c_14' : r_3.toInt < 0 := jb_lt (rfl) ((by decide)) c_14
                refine lv_iconst (v := (-1)) hx hb dX4_holder_244 (by decide) ?_
                rw [hQ]
                exact W.iret (v := (-1)) hx hb hr (fun t ht hW => ⟨⟨(-1), wt_12, rfl, by first | omega | (refine ⟨?_, ?_, ?_, ?_, ?_⟩ <;> (first | omega | rfl | assumption | decide | exact Or.inl rfl | exact Or.inr rfl | (simp only; omega))), hh_12.rt (M1 := [(r0, 6, 11, .int wt_12)]) [0] rfl ht⟩, by rw [ht]; try exact hh_12.1.1, fun q h9 hq => by rw [ht]; try exact hh_12.1.2.1 q h9 hq⟩) hh_12.1.2.2 dX4_holder_245
              · skip
                have c_14' : r_3.toInt ≥ 0 := jb_lt_n (rfl) ((by decide)) c_14
                refine lv_aload_n hx hb dX4_holder_82 rfl (lv_at hl 0 rfl) ?_
                obtain ⟨v_15, hv_15, hh_16⟩ := hh_12.pin (C := RX4) (T := TX4) (N := 12) hB6 rfl (by decide) hg_r0 (i := 8) (by decide) rfl
                clear hh_12
                obtain ⟨unitCount_17, rfl, hlounitCount_17, hhiunitCount_17⟩ := hv_15
                refine j7_read hx hb hown hK (C := RX4) (T := TX4) (N := 12) rfl hly_6_8 hlk_53 (hh_16.at 0 rfl) dX4_holder_83 ?_
                refine lv_istore (lv' := [(7, .int unitCount_17), (0, .ref r0), (1, .int a1), (2, .int a2), (3, .int r_3), (4, .int w0_4), (5, .int v5_12), (6, .int v6_12)]) hx hb dX4_holder_86 hl (by decide) rfl (fun ls hl => ?_)
                refine lv_iload_n hx hb dX4_holder_88 rfl (lv_at hl 3 rfl) ?_
                have C101 : ∀ (wt_18 : Int32) (H_18 : Heap) (locs_18 : List Loc), jSt (dC, dI) B base G0 G0 EX4_holder s.heap 0 0 [(r0, 6, 11, .int wt_18), (r0, 6, 9, .ref rb), (r0, 6, 10, .int pe)] [] [] H_18 locs_18 → (pt.toInt ≤ wt_18.toInt ∧ wt_18.toInt ≤ pe.toInt) → ∀ ls : Array Slot, lv_has ls 11 [(0, .ref r0), (1, .int a1), (2, .int a2), (3, .int r_3), (4, .int w0_4), (5, .int v5_12), (6, .int v6_12), (7, .int unitCount_17)] → W p l e R s m ([.ref r0, .int a1, .int a2] : List Value).toArray below meth c H_18 locs_18 0 0 Q (F0 m 101 ls []) := by
                  intro wt_18 H_18 locs_18 hh_18  hi_18 ls hl
                  obtain ⟨hi_18_0, hi_18_1⟩ := hi_18
                  refine lv_aload_n hx hb dX4_holder_101 rfl (lv_at hl 0 rfl) ?_
                  obtain ⟨v_19, hv_19, hh_20⟩ := hh_18.pin (C := RX4) (T := TX4) (N := 12) hB6 rfl (by decide) hg_r0 (i := 8) (by decide) rfl
                  clear hh_18
                  obtain ⟨unitCount_21, rfl, hlounitCount_21, hhiunitCount_21⟩ := hv_19
                  refine j7_read hx hb hown hK (C := RX4) (T := TX4) (N := 12) rfl hly_6_8 hlk_53 (hh_20.at 0 rfl) dX4_holder_102 ?_
                  refine lv_iload hx hb dX4_holder_105 (lv_at hl 7 rfl) ?_
                  refine lv_isub hx hb dX4_holder_107 ?_
                  refine lv_topi (fun z_22 ez_22 => ?_)
                  have hz_22 : z_22.toInt = unitCount_21.toInt - unitCount_17.toInt := by rw [ez_22]; exact jb_isub2 (rfl) (rfl) (by omega)
                  refine lv_istore (lv' := [(8, .int z_22), (0, .ref r0), (1, .int a1), (2, .int a2), (3, .int r_3), (4, .int w0_4), (5, .int v5_12), (6, .int v6_12), (7, .int unitCount_17)]) hx hb dX4_holder_108 hl (by decide) rfl (fun ls hl => ?_)
                  refine lv_iload_n hx hb dX4_holder_110 rfl (lv_at hl 3 rfl) ?_
                  have C123 : ∀ (wt_23 : Int32) (H_23 : Heap) (locs_23 : List Loc), jSt (dC, dI) B base G0 G0 EX4_holder s.heap 0 0 [(r0, 6, 11, .int wt_23), (r0, 6, 8, .int unitCount_21), (r0, 6, 9, .ref rb), (r0, 6, 10, .int pe)] [] [] H_23 locs_23 → (pt.toInt ≤ wt_23.toInt ∧ wt_23.toInt ≤ pe.toInt) → ∀ ls : Array Slot, lv_has ls 11 [(0, .ref r0), (1, .int a1), (2, .int a2), (3, .int r_3), (4, .int w0_4), (5, .int v5_12), (6, .int v6_12), (7, .int unitCount_17), (8, .int z_22)] → W p l e R s m ([.ref r0, .int a1, .int a2] : List Value).toArray below meth c H_23 locs_23 0 0 Q (F0 m 123 ls []) := by
                    intro wt_23 H_23 locs_23 hh_23  hi_23 ls hl
                    obtain ⟨hi_23_0, hi_23_1⟩ := hi_23
                    refine lv_aload_n hx hb dX4_holder_123 rfl (lv_at hl 0 rfl) ?_
                    refine lv_iload_n hx hb dX4_holder_124 rfl (lv_at hl 1 rfl) ?_
                    refine va_calli (A0 := jA base) (H0 := s.heap) (va_runV (As := [.int a1]) (rest := []) ⟨hx, hb, hml, hown, hts⟩ (hV G0 H_23 r0 a1 rb n_rb pe wt_23) (cwV 1 hts (jgV (jWr_20 _ (List.mem_of_getElem? (i := 1) rfl)) (jWr_20 _ (List.mem_of_getElem? (i := 2) rfl)) (jWr_20 _ (List.mem_of_getElem? (i := 3) rfl)) (jWr_1 _ (List.mem_of_getElem? (i := 22) rfl)) (jWr_20 _ (List.mem_of_getElem? (i := 4) rfl))) rfl rfl rfl (by decide +kernel) ⟨by rw [← hR]; show (2 * ef + 8) + 1 ≤ 2 * ef + 9; omega, by rw [← hR]; show 8 + (4 + 11) + (130 * ef + 500) ≤ 130 * ef + 560; omega⟩) ⟨fun a U g mk q => by obtain ⟨q0, q1, q2, qK, q10, q11, q12, q13⟩ := q; exact ⟨q0, q1, q2, jG.calling g mk a qK, q10, q11, q12, q13⟩, hh_23.recv (C := RX4) (T := TX4) (N := 12) hB6 rfl (by decide) hg_r0 hK, fun U hU hW => ⟨rfl, hU, hh_23.2.1, hG.step hW hU hh_23.1, hg_r0, hg_rb, (hh_23.2.2.1.sub (L1 := [(r0, 6, 9, .ref rb), (r0, 6, 10, .int pe), (r0, 6, 11, .int wt_23)]) [2, 3, 0] rfl), by first | omega | (refine ⟨?_, ?_, ?_, ?_, ?_, ?_, ?_, ?_⟩ <;> (first | omega | rfl | assumption | decide | exact Or.inl rfl | exact Or.inr rfl | (simp only; omega)))⟩⟩ rfl rfl hl.1 rfl (lv_room (Nat.le_of_ble_eq_true rfl)) dX4_holder_125 ⟨Nat.zero_le _, Nat.zero_le _⟩) hh_23.1 (fun q _ h => h) (fun q h => h) (fun r_25 u_24 t_24 H_24 locs_24 ht_24 hvm_24 hr_25 hb_24 hz_24 hk_24 hS_24 => ?_)
                    obtain ⟨qt_24, rfl⟩ : ∃ z, z = u_24 := ⟨_, rfl⟩
                    rw [ht_24] at hb_24
                    obtain ⟨hb_241, hb_242, hb_243, hb_244, hb_245⟩ := hb_24
                    have hh_24 : jSt (dC, dI) B base G0 G0 EX4_holder s.heap 0 0 [(r0, 6, 11, .int qt_24), (r0, 6, 9, .ref rb), (r0, 6, 10, .int pe)] [] [] H_24 locs_24 := ((hh_23.call hb_241 hb_242 hb_243 hb_244 hS_24 rfl (L1 := [(r0, 6, 9, .ref rb), (r0, 6, 10, .int pe)]) [2, 3] rfl rfl (M1 := []) [] rfl rfl (I1 := []) [] rfl rfl).more hb_245)
                    clear hh_23 ht_24 hvm_24 hz_24 hk_24 hS_24 hb_241 hb_242 hb_243 hb_244 hb_245
                    obtain ⟨hr_25_0, hr_25_1, hr_25_2, hr_25_3, hr_25_4⟩ := hr_25
                    refine lv_istore (lv' := [(9, .int r_25), (0, .ref r0), (1, .int a1), (2, .int a2), (3, .int r_3), (4, .int w0_4), (5, .int v5_12), (6, .int v6_12), (7, .int unitCount_17), (8, .int z_22)]) hx hb dX4_holder_128 hl (by decide) rfl (fun ls hl => ?_)
                    refine lv_iload hx hb dX4_holder_130 (lv_at hl 0 rfl) ?_
                    refine lv_if_ge (tgt := 137) hx hb dX4_holder_132 (by decide) (fun c_26 => ?_) (fun c_26 => ?_)
                    · skip
                      have c_26' : r_25.toInt ≥ 0 := jb_ge (rfl) ((by decide)) c_26
                      first | (have hr_25_4q := hr_25_4.resolve_left (by omega); clear hr_25_4) | (have hr_25_4q := hr_25_4.resolve_right (by omega); clear hr_25_4) | skip
                      refine lv_aload_n hx hb dX4_holder_137 rfl (lv_at hl 1 rfl) ?_
                      obtain ⟨v_27, hv_27, hh_28⟩ := hh_24.pin (C := RX4) (T := TX4) (N := 12) hB6 rfl (by decide) hg_r0 (i := 4) (by decide) rfl
                      clear hh_24
                      obtain ⟨keyFirsts_29, rfl, hg_keyFirsts_29⟩ := hv_27
                      refine j7_read hx hb hown hK (C := RX4) (T := TX4) (N := 12) rfl hly_6_4 hlk_24 (hh_28.at 0 rfl) dX4_holder_138 ?_
                      refine lv_iload hx hb dX4_holder_141 (lv_at hl 0 rfl) ?_
                      refine lv_iload hx hb dX4_holder_143 (lv_at hl 8 rfl) ?_
                      refine j7_iast hx hb hK hh_28 hB hB144 1 rfl (by decide) (by decide) rfl rfl rfl hg_keyFirsts_29 (x := r_25.toInt) (rfl) (by omega) (by first | omega | (refine ⟨?_, ?_⟩ <;> (first | omega | rfl | assumption | decide | exact Or.inl rfl | exact Or.inr rfl | (simp only; omega)))) dX4_holder_145 (fun H_30 locs_30 hh_30 => ?_)
                      clear hh_28
                      refine lv_aload_n hx hb dX4_holder_146 rfl (lv_at hl 1 rfl) ?_
                      obtain ⟨v_31, hv_31, hh_32⟩ := hh_30.pin (C := RX4) (T := TX4) (N := 12) hB6 rfl (by decide) hg_r0 (i := 5) (by decide) rfl
                      clear hh_30
                      obtain ⟨keySizes_33, rfl, hg_keySizes_33⟩ := hv_31
                      refine j7_read hx hb hown hK (C := RX4) (T := TX4) (N := 12) rfl hly_6_5 hlk_27 (hh_32.at 0 rfl) dX4_holder_147 ?_
                      refine lv_iload hx hb dX4_holder_150 (lv_at hl 0 rfl) ?_
                      refine lv_iload hx hb dX4_holder_152 (lv_at hl 9 rfl) ?_
                      refine j7_iast hx hb hK hh_32 hB hB145 1 rfl (by decide) (by decide) rfl rfl rfl hg_keySizes_33 (x := r_25.toInt) (rfl) (by omega) (trivial) dX4_holder_154 (fun H_34 locs_34 hh_34 => ?_)
                      clear hh_32
                      refine lv_iload hx hb dX4_holder_155 (lv_at hl 6 rfl) ?_
                      have C180 : ∀ (H_35 : Heap) (locs_35 : List Loc), jSt (dC, dI) B base G0 G0 EX4_holder s.heap 0 0 [(r0, 6, 5, .ref keySizes_33), (r0, 6, 4, .ref keyFirsts_29), (r0, 6, 11, .int qt_24), (r0, 6, 9, .ref rb), (r0, 6, 10, .int pe)] [] [] H_35 locs_35 → (True) → ∀ ls : Array Slot, lv_has ls 11 [(0, .ref r0), (1, .int a1), (2, .int a2), (3, .int r_3), (4, .int w0_4), (5, .int v5_12), (6, .int v6_12), (7, .int unitCount_17), (8, .int z_22), (9, .int r_25)] → W p l e R s m ([.ref r0, .int a1, .int a2] : List Value).toArray below meth c H_35 locs_35 0 0 Q (F0 m 180 ls []) := by
                        intro  H_35 locs_35 hh_35  hi_35 ls hl
                        try clear hr_25_4
                        refine lv_iload hx hb dX4_holder_180 (lv_at hl 9 rfl) ?_
                        refine lv_istore (lv' := [(5, .int r_25), (0, .ref r0), (1, .int a1), (2, .int a2), (3, .int r_3), (4, .int w0_4), (6, .int v6_12), (7, .int unitCount_17), (8, .int z_22), (9, .int r_25)]) hx hb dX4_holder_182 hl (by decide) rfl (fun ls hl => ?_)
                        refine lv_aload_n hx hb dX4_holder_184 rfl (lv_at hl 1 rfl) ?_
                        obtain ⟨v_36, hv_36, hh_37⟩ := hh_35.pin (C := RX4) (T := TX4) (N := 12) hB6 rfl (by decide) hg_r0 (i := 2) (by decide) rfl
                        clear hh_35
                        obtain ⟨sizes_38, rfl, hg_sizes_38⟩ := hv_36
                        refine j7_read hx hb hown hK (C := RX4) (T := TX4) (N := 12) rfl hly_6_2 hlk_18 (hh_37.at 0 rfl) dX4_holder_185 ?_
                        refine lv_iload_n hx hb dX4_holder_188 rfl (lv_at hl 4 rfl) ?_
                        refine lv_dup2_11 hx hb dX4_holder_189 rfl rfl ?_
                        refine j7_iald hx hb hK hh_37 hB142 1 rfl (by decide) hg_sizes_38 (x := r_3.toInt) (rfl) (by omega) dX4_holder_190 (fun z_39 (hz_39 : True) => ?_)
                        refine lv_iconst (v := 1) hx hb dX4_holder_191 (by decide) ?_
                        refine lv_iadd hx hb dX4_holder_192 ?_
                        refine lv_topi (fun z_40 ez_40 => ?_)
                        refine j7_iast hx hb hK hh_37 hB hB142 1 rfl (by decide) (by decide) rfl rfl rfl hg_sizes_38 (x := r_3.toInt) (rfl) (by omega) (trivial) dX4_holder_193 (fun H_41 locs_41 hh_41 => ?_)
                        clear hh_37
                        refine lv_aload_n hx hb dX4_holder_194 rfl (lv_at hl 1 rfl) ?_
                        refine va_callv (A0 := jA base) (H0 := s.heap) (va_runV (As := []) (rest := []) ⟨hx, hb, hml, hown, hts⟩ (uX4_skipBlanks l dC dI ca base B hB hAp hB6 hB100 G0 H_41 r0 rb n_rb pe qt_24 pe.toInt) (cwV 0 hts (jgV (jWr_19 _ (List.mem_of_getElem? (i := 15) rfl)) (jWr_19 _ (List.mem_of_getElem? (i := 16) rfl)) (jWr_19 _ (List.mem_of_getElem? (i := 17) rfl)) (jWr_1 _ (List.mem_of_getElem? (i := 22) rfl)) (jWr_19 _ (List.mem_of_getElem? (i := 18) rfl))) rfl rfl rfl (by decide +kernel) ⟨by rw [← hR]; show (1) + 1 ≤ 2 * ef + 9; omega, by rw [← hR]; show 8 + (1 + 11) + (20) ≤ 130 * ef + 560; omega⟩) ⟨fun a U g mk q => by obtain ⟨q0, q1, q2, qK, q10, q11, q12, q13⟩ := q; exact ⟨q0, q1, q2, jG.calling g mk a qK, q10, q11, q12, q13⟩, hh_41.recv (C := RX4) (T := TX4) (N := 12) hB6 rfl (by decide) hg_r0 hK, fun U hU hW => ⟨rfl, hU, hh_41.2.1, hG.step hW hU hh_41.1, hg_r0, hg_rb, (hh_41.2.2.1.sub (L1 := [(r0, 6, 9, .ref rb), (r0, 6, 10, .int pe), (r0, 6, 11, .int qt_24)]) [4, 5, 3] rfl), by first | omega | (refine ⟨?_, ?_, ?_, ?_, ?_, ?_, ?_, ?_⟩ <;> (first | omega | rfl | assumption | decide | exact Or.inl rfl | exact Or.inr rfl | (simp only; omega)))⟩⟩ rfl rfl hl.1 rfl (lv_room (Nat.le_of_ble_eq_true rfl)) dX4_holder_195 ⟨Nat.zero_le _, Nat.zero_le _⟩) hh_41.1 (fun q _ h => h) (fun q h => h) (fun u_42 t_42 H_42 locs_42 ht_42 hvm_42 hr_43 hb_42 hz_42 hk_42 hS_42 => ?_)
                        obtain ⟨qt_42, rfl⟩ : ∃ z, z = u_42 := ⟨_, rfl⟩
                        rw [ht_42] at hb_42
                        obtain ⟨hb_421, hb_422, hb_423, hb_424, hb_425⟩ := hb_42
                        have hh_42 : jSt (dC, dI) B base G0 G0 EX4_holder s.heap 0 0 [(r0, 6, 11, .int qt_42), (r0, 6, 2, .ref sizes_38), (r0, 6, 5, .ref keySizes_33), (r0, 6, 4, .ref keyFirsts_29), (r0, 6, 9, .ref rb), (r0, 6, 10, .int pe)] [] [] H_42 locs_42 := ((hh_41.call hb_421 hb_422 hb_423 hb_424 hS_42 rfl (L1 := [(r0, 6, 2, .ref sizes_38), (r0, 6, 5, .ref keySizes_33), (r0, 6, 4, .ref keyFirsts_29), (r0, 6, 9, .ref rb), (r0, 6, 10, .int pe)]) [0, 1, 2, 4, 5] rfl rfl (M1 := []) [] rfl rfl (I1 := []) [] rfl rfl).more hb_425)
                        clear hh_41 ht_42 hvm_42 hz_42 hk_42 hS_42 hb_421 hb_422 hb_423 hb_424 hb_425
                        obtain ⟨hr_43_0, hr_43_1⟩ := hr_43
                        refine lv_aload_n hx hb dX4_holder_198 rfl (lv_at hl 1 rfl) ?_
                        refine va_calli (A0 := jA base) (H0 := s.heap) (va_runV (As := []) (rest := []) ⟨hx, hb, hml, hown, hts⟩ (uX4_peek l dC dI ca base B hB hAp hB6 hB100 G0 H_42 r0 rb n_rb pe qt_42) (cwV 0 hts (jgV (jWr_19 _ (List.mem_of_getElem? (i := 19) rfl)) (jWr_19 _ (List.mem_of_getElem? (i := 20) rfl)) (jWr_19 _ (List.mem_of_getElem? (i := 21) rfl)) (jWr_1 _ (List.mem_of_getElem? (i := 22) rfl)) (jWr_19 _ (List.mem_of_getElem? (i := 22) rfl))) rfl rfl rfl (by decide +kernel) ⟨by rw [← hR]; show (0) + 1 ≤ 2 * ef + 9; omega, by rw [← hR]; show 8 + (1 + 11) + (0) ≤ 130 * ef + 560; omega⟩) ⟨fun a U g mk q => by obtain ⟨q0, q1, q2, qK, q10, q11, q12, q13⟩ := q; exact ⟨q0, q1, q2, jG.calling g mk a qK, q10, q11, q12, q13⟩, hh_42.recv (C := RX4) (T := TX4) (N := 12) hB6 rfl (by decide) hg_r0 hK, fun U hU hW => ⟨rfl, hU, hh_42.2.1, hG.step hW hU hh_42.1, hg_r0, hg_rb, (hh_42.2.2.1.sub (L1 := [(r0, 6, 9, .ref rb), (r0, 6, 10, .int pe), (r0, 6, 11, .int qt_42)]) [4, 5, 0] rfl), by first | omega | (refine ⟨?_, ?_, ?_, ?_, ?_⟩ <;> (first | omega | rfl | assumption | decide | exact Or.inl rfl | exact Or.inr rfl | (simp only; omega)))⟩⟩ rfl rfl hl.1 rfl (lv_room (Nat.le_of_ble_eq_true rfl)) dX4_holder_199 ⟨Nat.zero_le _, Nat.zero_le _⟩) hh_42.1 (fun q _ h => h) (fun q h => h) (fun r_45 u_44 t_44 H_44 locs_44 ht_44 hvm_44 hr_45 hb_44 hz_44 hk_44 hS_44 => ?_)
                        rw [ht_44] at hb_44
                        obtain ⟨hb_441, hb_442, hb_443, hb_444, hb_445⟩ := hb_44
                        have hh_44 : jSt (dC, dI) B base G0 G0 EX4_holder s.heap 0 0 [(r0, 6, 11, .int qt_42), (r0, 6, 2, .ref sizes_38), (r0, 6, 5, .ref keySizes_33), (r0, 6, 4, .ref keyFirsts_29), (r0, 6, 9, .ref rb), (r0, 6, 10, .int pe)] [] [] H_44 locs_44 := ((hh_42.call hb_441 hb_442 hb_443 hb_444 hS_44 rfl (L1 := [(r0, 6, 11, .int qt_42), (r0, 6, 2, .ref sizes_38), (r0, 6, 5, .ref keySizes_33), (r0, 6, 4, .ref keyFirsts_29), (r0, 6, 9, .ref rb), (r0, 6, 10, .int pe)]) [0, 1, 2, 3, 4, 5] rfl rfl (M1 := []) [] rfl rfl (I1 := []) [] rfl rfl).more hb_445)
                        clear hh_42 ht_44 hvm_44 hz_44 hk_44 hS_44 hb_441 hb_442 hb_443 hb_444 hb_445
                        obtain ⟨hr_45_0, hr_45_1, hr_45_2⟩ := hr_45
                        refine lv_istore (lv' := [(10, .int r_45), (5, .int r_25), (0, .ref r0), (1, .int a1), (2, .int a2), (3, .int r_3), (4, .int w0_4), (6, .int v6_12), (7, .int unitCount_17), (8, .int z_22), (9, .int r_25)]) hx hb dX4_holder_202 hl (by decide) rfl (fun ls hl => ?_)
                        refine lv_aload_n hx hb dX4_holder_204 rfl (lv_at hl 2 rfl) ?_
                        refine lv_dup hx hb dX4_holder_205 rfl ?_
                        refine j7_read hx hb hown hK (C := RX4) (T := TX4) (N := 12) rfl hly_6_11 hlk_47 (hh_44.at 0 rfl) dX4_holder_206 ?_
                        refine lv_iconst (v := 1) hx hb dX4_holder_209 (by decide) ?_
                        refine lv_iadd hx hb dX4_holder_210 ?_
                        refine lv_topi (fun z_46 ez_46 => ?_)
                        have hz_46 : z_46.toInt = qt_42.toInt + 1 := by rw [ez_46]; exact jb_iadd2 (rfl) ((by decide)) (by omega)
                        refine j7_put hx hb hown hK hh_44 hB hAp hB6 (C := RX4) (T := TX4) (N := 12) rfl (by decide) hg_r0 (i := 11) (by decide) hly_6_11 rfl hlk_47 rfl (ty := .int) (v := .int z_46) (by decide +kernel) rfl rfl (⟨_, rfl, by omega, by omega⟩) rfl (L1 := [(r0, 6, 2, .ref sizes_38), (r0, 6, 5, .ref keySizes_33), (r0, 6, 4, .ref keyFirsts_29), (r0, 6, 9, .ref rb), (r0, 6, 10, .int pe)]) [1, 2, 3, 4, 5] rfl rfl rfl dX4_holder_211 (fun H_47 locs_47 hh_47 => ?_)
                        clear hh_44
                        refine lv_iload hx hb dX4_holder_214 (lv_at hl 0 rfl) ?_
                        refine lv_bipush (v := 44) hx hb dX4_holder_216 (by decide) ?_
                        refine lv_icmp_eq (tgt := 234) hx hb dX4_holder_218 (by decide) (fun c_48 => ?_) (fun c_48 => ?_)
                        · skip
                          have c_48' : r_45.toInt = 44 := jb_eq (rfl) ((by decide)) c_48
                          first | (have hr_45_2q := hr_45_2.resolve_left (by omega); clear hr_45_2) | (have hr_45_2q := hr_45_2.resolve_right (by omega); clear hr_45_2) | skip
                          refine lv_aload_n hx hb dX4_holder_234 rfl (lv_at hl 2 rfl) ?_
                          refine va_callv (A0 := jA base) (H0 := s.heap) (va_runV (As := []) (rest := []) ⟨hx, hb, hml, hown, hts⟩ (uX4_skipBlanks l dC dI ca base B hB hAp hB6 hB100 G0 H_47 r0 rb n_rb pe z_46 pe.toInt) (cwV 0 hts (jgV (jWr_19 _ (List.mem_of_getElem? (i := 15) rfl)) (jWr_19 _ (List.mem_of_getElem? (i := 16) rfl)) (jWr_19 _ (List.mem_of_getElem? (i := 17) rfl)) (jWr_1 _ (List.mem_of_getElem? (i := 22) rfl)) (jWr_19 _ (List.mem_of_getElem? (i := 18) rfl))) rfl rfl rfl (by decide +kernel) ⟨by rw [← hR]; show (1) + 1 ≤ 2 * ef + 9; omega, by rw [← hR]; show 8 + (1 + 11) + (20) ≤ 130 * ef + 560; omega⟩) ⟨fun a U g mk q => by obtain ⟨q0, q1, q2, qK, q10, q11, q12, q13⟩ := q; exact ⟨q0, q1, q2, jG.calling g mk a qK, q10, q11, q12, q13⟩, hh_47.recv (C := RX4) (T := TX4) (N := 12) hB6 rfl (by decide) hg_r0 hK, fun U hU hW => ⟨rfl, hU, hh_47.2.1, hG.step hW hU hh_47.1, hg_r0, hg_rb, (hh_47.2.2.1.sub (L1 := [(r0, 6, 9, .ref rb), (r0, 6, 10, .int pe), (r0, 6, 11, .int z_46)]) [4, 5, 0] rfl), by first | omega | (refine ⟨?_, ?_, ?_, ?_, ?_, ?_, ?_, ?_⟩ <;> (first | omega | rfl | assumption | decide | exact Or.inl rfl | exact Or.inr rfl | (simp only; omega)))⟩⟩ rfl rfl hl.1 rfl (lv_room (Nat.le_of_ble_eq_true rfl)) dX4_holder_235 ⟨Nat.zero_le _, Nat.zero_le _⟩) hh_47.1 (fun q _ h => h) (fun q h => h) (fun u_49 t_49 H_49 locs_49 ht_49 hvm_49 hr_50 hb_49 hz_49 hk_49 hS_49 => ?_)
                          obtain ⟨qt_49, rfl⟩ : ∃ z, z = u_49 := ⟨_, rfl⟩
                          rw [ht_49] at hb_49
                          obtain ⟨hb_491, hb_492, hb_493, hb_494, hb_495⟩ := hb_49
                          have hh_49 : jSt (dC, dI) B base G0 G0 EX4_holder s.heap 0 0 [(r0, 6, 11, .int qt_49), (r0, 6, 2, .ref sizes_38), (r0, 6, 5, .ref keySizes_33), (r0, 6, 4, .ref keyFirsts_29), (r0, 6, 9, .ref rb), (r0, 6, 10, .int pe)] [] [] H_49 locs_49 := ((hh_47.call hb_491 hb_492 hb_493 hb_494 hS_49 rfl (L1 := [(r0, 6, 2, .ref sizes_38), (r0, 6, 5, .ref keySizes_33), (r0, 6, 4, .ref keyFirsts_29), (r0, 6, 9, .ref rb), (r0, 6, 10, .int pe)]) [1, 2, 3, 4, 5] rfl rfl (M1 := []) [] rfl rfl (I1 := []) [] rfl rfl).more hb_495)
                          clear hh_47 ht_49 hvm_49 hz_49 hk_49 hS_49 hb_491 hb_492 hb_493 hb_494 hb_495
                          obtain ⟨hr_50_0, hr_50_1⟩ := hr_50
                          obtain ⟨z_51, ez_51⟩ : ∃ y : Int32, y = v6_12 + 1 := ⟨_, rfl⟩
                          refine lv_iinc (v := z_51) (lv' := [(6, .int z_51), (10, .int r_45), (5, .int r_25), (0, .ref r0), (1, .int a1), (2, .int a2), (3, .int r_3), (4, .int w0_4), (7, .int unitCount_17), (8, .int z_22), (9, .int r_25)]) hx hb dX4_holder_238 hl (k := 7) rfl (by rw [ez_51]; rfl) (by decide) rfl (fun ls hl => ?_)
                          have hz_51 : z_51.toInt = v6_12.toInt + 1 := by rw [ez_51]; exact jb_iadd2 (rfl) (by decide) (by omega)
                          refine lv_goto (tgt := 70) hx hb dX4_holder_241 (by decide) ?_
                          exact L70 r_25 z_51 qt_49 _ _ (hh_49.sub (L1 := [(r0, 6, 11, .int qt_49), (r0, 6, 9, .ref rb), (r0, 6, 10, .int pe)]) [0, 4, 5] rfl (M1 := []) [] rfl (I1 := []) [] rfl) (by first | omega | (refine ⟨?_, ?_, ?_, ?_, ?_, ?_⟩ <;> (first | omega | rfl | assumption | decide | exact Or.inl rfl | exact Or.inr rfl | (simp only; omega)))) (by omega) _ (lv_sub hl [3, 4, 5, 6, 7, 2, 0] rfl)
                        · skip
                          have c_48' : r_45.toInt ≠ 44 := jb_eq_n (rfl) ((by decide)) c_48
                          refine lv_iload hx hb dX4_holder_221 (lv_at hl 0 rfl) ?_
                          refine lv_iload hx hb dX4_holder_223 (lv_at hl 6 rfl) ?_
                          refine lv_icmp_ne (tgt := 232) hx hb dX4_holder_225 (by decide) (fun c_52 => ?_) (fun c_52 => ?_)
                          · skip
                            have c_52' : r_45.toInt ≠ w0_4.toInt := jb_ne (rfl) (rfl) c_52
                            refine lv_iconst (v := (-1)) hx hb dX4_holder_232 (by decide) ?_
                            rw [hQ]
                            exact W.iret (v := (-1)) hx hb hr (fun t ht hW => ⟨⟨(-1), z_46, rfl, by first | omega | (refine ⟨?_, ?_, ?_, ?_, ?_⟩ <;> (first | omega | rfl | assumption | decide | exact Or.inl rfl | exact Or.inr rfl | (simp only; omega))), hh_47.rt (M1 := [(r0, 6, 11, .int z_46)]) [0] rfl ht⟩, by rw [ht]; try exact hh_47.1.1, fun q h9 hq => by rw [ht]; try exact hh_47.1.2.1 q h9 hq⟩) hh_47.1.2.2 dX4_holder_233
                          · skip
                            have c_52' : r_45.toInt = w0_4.toInt := jb_ne_n (rfl) (rfl) c_52
                            first | (have hr_45_2q := hr_45_2.resolve_left (by omega); clear hr_45_2) | (have hr_45_2q := hr_45_2.resolve_right (by omega); clear hr_45_2) | skip
                            refine lv_iload_n hx hb dX4_holder_228 rfl (lv_at hl 5 rfl) ?_
                            refine lv_goto (tgt := 233) hx hb dX4_holder_229 (by decide) ?_
                            rw [hQ]
                            exact W.iret (v := r_3) hx hb hr (fun t ht hW => ⟨⟨r_3, z_46, rfl, by first | omega | (refine ⟨?_, ?_, ?_, ?_, ?_⟩ <;> (first | omega | rfl | assumption | decide | exact Or.inl rfl | exact Or.inr rfl | (simp only; omega))), hh_47.rt (M1 := [(r0, 6, 11, .int z_46)]) [0] rfl ht⟩, by rw [ht]; try exact hh_47.1.1, fun q h9 hq => by rw [ht]; try exact hh_47.1.2.1 q h9 hq⟩) hh_47.1.2.2 dX4_holder_233
                      refine lv_if_ge (tgt := 171) hx hb dX4_holder_157 (by decide) (fun c_53 => ?_) (fun c_53 => ?_)
                      · skip
                        have c_53' : v5_12.toInt ≥ 0 := jb_ge (rfl) ((by decide)) c_53
                        refine lv_aload_n hx hb dX4_holder_171 rfl (lv_at hl 1 rfl) ?_
                        obtain ⟨v_54, hv_54, hh_55⟩ := hh_34.pin (C := RX4) (T := TX4) (N := 12) hB6 rfl (by decide) hg_r0 (i := 3) (by decide) rfl
                        clear hh_34
                        obtain ⟨nexts_56, rfl, hg_nexts_56⟩ := hv_54
                        refine j7_read hx hb hown hK (C := RX4) (T := TX4) (N := 12) rfl hly_6_3 hlk_21 (hh_55.at 0 rfl) dX4_holder_172 ?_
                        refine lv_iload hx hb dX4_holder_175 (lv_at hl 6 rfl) ?_
                        refine lv_iload hx hb dX4_holder_177 (lv_at hl 0 rfl) ?_
                        refine j7_iast hx hb hK hh_55 hB hB143 1 rfl (by decide) (by decide) rfl rfl rfl hg_nexts_56 (x := v5_12.toInt) (rfl) (by omega) (trivial) dX4_holder_179 (fun H_57 locs_57 hh_57 => ?_)
                        clear hh_55
                        exact C180  _ _ (hh_57.sub (L1 := [(r0, 6, 5, .ref keySizes_33), (r0, 6, 4, .ref keyFirsts_29), (r0, 6, 11, .int qt_24), (r0, 6, 9, .ref rb), (r0, 6, 10, .int pe)]) [1, 2, 3, 4, 5] rfl (M1 := []) [] rfl (I1 := []) [] rfl) (trivial) _ (lv_sub hl [1, 2, 3, 4, 5, 6, 7, 8, 9, 0] rfl)
                      · skip
                        have c_53' : v5_12.toInt < 0 := jb_ge_n (rfl) ((by decide)) c_53
                        refine lv_aload_n hx hb dX4_holder_160 rfl (lv_at hl 1 rfl) ?_
                        obtain ⟨v_58, hv_58, hh_59⟩ := hh_34.pin (C := RX4) (T := TX4) (N := 12) hB6 rfl (by decide) hg_r0 (i := 1) (by decide) rfl
                        clear hh_34
                        obtain ⟨firsts_60, rfl, hg_firsts_60⟩ := hv_58
                        refine j7_read hx hb hown hK (C := RX4) (T := TX4) (N := 12) rfl hly_6_1 hlk_15 (hh_59.at 0 rfl) dX4_holder_161 ?_
                        refine lv_iload_n hx hb dX4_holder_164 rfl (lv_at hl 4 rfl) ?_
                        refine lv_iload hx hb dX4_holder_165 (lv_at hl 0 rfl) ?_
                        refine j7_iast hx hb hK hh_59 hB hB141 1 rfl (by decide) (by decide) rfl rfl rfl hg_firsts_60 (x := r_3.toInt) (rfl) (by omega) (trivial) dX4_holder_167 (fun H_61 locs_61 hh_61 => ?_)
                        clear hh_59
                        refine lv_goto (tgt := 180) hx hb dX4_holder_168 (by decide) ?_
                        exact C180  _ _ (hh_61.sub (L1 := [(r0, 6, 5, .ref keySizes_33), (r0, 6, 4, .ref keyFirsts_29), (r0, 6, 11, .int qt_24), (r0, 6, 9, .ref rb), (r0, 6, 10, .int pe)]) [1, 2, 3, 4, 5] rfl (M1 := []) [] rfl (I1 := []) [] rfl) (trivial) _ (lv_sub hl [1, 2, 3, 4, 5, 6, 7, 8, 9, 0] rfl)
                    · skip
                      have c_26' : r_25.toInt < 0 := jb_ge_n (rfl) ((by decide)) c_26
                      first | (have hr_25_4q := hr_25_4.resolve_left (by omega); clear hr_25_4) | (have hr_25_4q := hr_25_4.resolve_right (by omega); clear hr_25_4) | skip
                      refine lv_iconst (v := (-1)) hx hb dX4_holder_135 (by decide) ?_
                      rw [hQ]
                      exact W.iret (v := (-1)) hx hb hr (fun t ht hW => ⟨⟨(-1), qt_24, rfl, by first | omega | (refine ⟨?_, ?_, ?_, ?_, ?_⟩ <;> (first | omega | rfl | assumption | decide | exact Or.inl rfl | exact Or.inr rfl | (simp only; omega))), hh_24.rt (M1 := [(r0, 6, 11, .int qt_24)]) [0] rfl ht⟩, by rw [ht]; try exact hh_24.1.1, fun q h9 hq => by rw [ht]; try exact hh_24.1.2.1 q h9 hq⟩) hh_24.1.2.2 dX4_holder_136
                  refine lv_if_eq (tgt := 123) hx hb dX4_holder_111 (by decide) (fun c_62 => ?_) (fun c_62 => ?_)
                  · skip
                    have c_62' : a2.toInt = 0 := jb_eq (rfl) ((by decide)) c_62
                    exact C123 wt_18 _ _ (hh_20.sub (L1 := [(r0, 6, 11, .int wt_18), (r0, 6, 8, .int unitCount_21), (r0, 6, 9, .ref rb), (r0, 6, 10, .int pe)]) [1, 0, 2, 3] rfl (M1 := []) [] rfl (I1 := []) [] rfl) (by first | omega | (refine ⟨?_, ?_⟩ <;> (first | omega | rfl | assumption | decide | exact Or.inl rfl | exact Or.inr rfl | (simp only; omega)))) _ (lv_sub hl [1, 2, 3, 4, 5, 6, 7, 8, 0] rfl)
                  · skip
                    have c_62' : a2.toInt ≠ 0 := jb_eq_n (rfl) ((by decide)) c_62
                    refine lv_aload_n hx hb dX4_holder_114 rfl (lv_at hl 1 rfl) ?_
                    refine va_calli (A0 := jA base) (H0 := s.heap) (va_runV (As := []) (rest := []) ⟨hx, hb, hml, hown, hts⟩ (uX4_isColon l dC dI ca base B hB hAp hB6 hB100 G0 H_18 r0 rb n_rb pe wt_18) (cwV 0 hts (jgV (jWr_23 _ (List.mem_of_getElem? (i := 6) rfl)) (jWr_23 _ (List.mem_of_getElem? (i := 7) rfl)) (jWr_23 _ (List.mem_of_getElem? (i := 8) rfl)) (jWr_1 _ (List.mem_of_getElem? (i := 22) rfl)) (jWr_23 _ (List.mem_of_getElem? (i := 9) rfl))) rfl rfl rfl (by decide +kernel) ⟨by rw [← hR]; show (2) + 1 ≤ 2 * ef + 9; omega, by rw [← hR]; show 8 + (2 + 11) + (40) ≤ 130 * ef + 560; omega⟩) ⟨fun a U g mk q => by obtain ⟨q0, q1, q2, qK, q10, q11, q12, q13⟩ := q; exact ⟨q0, q1, q2, jG.calling g mk a qK, q10, q11, q12, q13⟩, hh_20.recv (C := RX4) (T := TX4) (N := 12) hB6 rfl (by decide) hg_r0 hK, fun U hU hW => ⟨rfl, hU, hh_20.2.1, hG.step hW hU hh_20.1, hg_r0, hg_rb, (hh_20.2.2.1.sub (L1 := [(r0, 6, 9, .ref rb), (r0, 6, 10, .int pe), (r0, 6, 11, .int wt_18)]) [2, 3, 1] rfl), by first | omega | (refine ⟨?_, ?_, ?_, ?_, ?_, ?_⟩ <;> (first | omega | rfl | assumption | decide | exact Or.inl rfl | exact Or.inr rfl | (simp only; omega)))⟩⟩ rfl rfl hl.1 rfl (lv_room (Nat.le_of_ble_eq_true rfl)) dX4_holder_115 ⟨Nat.zero_le _, Nat.zero_le _⟩) hh_20.1 (fun q _ h => h) (fun q h => h) (fun r_64 u_63 t_63 H_63 locs_63 ht_63 hvm_63 hr_64 hb_63 hz_63 hk_63 hS_63 => ?_)
                    obtain ⟨qt_63, rfl⟩ : ∃ z, z = u_63 := ⟨_, rfl⟩
                    rw [ht_63] at hb_63
                    obtain ⟨hb_631, hb_632, hb_633, hb_634, hb_635⟩ := hb_63
                    have hh_63 : jSt (dC, dI) B base G0 G0 EX4_holder s.heap 0 0 [(r0, 6, 11, .int qt_63), (r0, 6, 8, .int unitCount_21), (r0, 6, 9, .ref rb), (r0, 6, 10, .int pe)] [] [] H_63 locs_63 := ((hh_20.call hb_631 hb_632 hb_633 hb_634 hS_63 rfl (L1 := [(r0, 6, 8, .int unitCount_21), (r0, 6, 9, .ref rb), (r0, 6, 10, .int pe)]) [0, 2, 3] rfl rfl (M1 := []) [] rfl rfl (I1 := []) [] rfl rfl).more hb_635)
                    clear hh_20 ht_63 hvm_63 hz_63 hk_63 hS_63 hb_631 hb_632 hb_633 hb_634 hb_635
                    obtain ⟨hr_64b, hr_64p⟩ := hr_64
                    obtain ⟨hr_64p_0, hr_64p_1⟩ := hr_64p
                    have hr_64' := jb_01 hr_64b
                    refine lv_if_ne (tgt := 123) hx hb dX4_holder_118 (by decide) (fun c_65 => ?_) (fun c_65 => ?_)
                    · skip
                      have c_65' : r_64.toInt ≠ 0 := jb_ne (rfl) ((by decide)) c_65
                      exact C123 qt_63 _ _ hh_63 (by first | omega | (refine ⟨?_, ?_⟩ <;> (first | omega | rfl | assumption | decide | exact Or.inl rfl | exact Or.inr rfl | (simp only; omega)))) _ (lv_sub hl [1, 2, 3, 4, 5, 6, 7, 8, 0] rfl)
                    · skip
                      have c_65' : r_64.toInt = 0 := jb_ne_n (rfl) ((by decide)) c_65
                      refine lv_iconst (v := (-1)) hx hb dX4_holder_121 (by decide) ?_
                      rw [hQ]
                      exact W.iret (v := (-1)) hx hb hr (fun t ht hW => ⟨⟨(-1), qt_63, rfl, by first | omega | (refine ⟨?_, ?_, ?_, ?_, ?_⟩ <;> (first | omega | rfl | assumption | decide | exact Or.inl rfl | exact Or.inr rfl | (simp only; omega))), hh_63.rt (M1 := [(r0, 6, 11, .int qt_63)]) [0] rfl ht⟩, by rw [ht]; try exact hh_63.1.1, fun q h9 hq => by rw [ht]; try exact hh_63.1.2.1 q h9 hq⟩) hh_63.1.2.2 dX4_holder_122
                refine lv_if_eq (tgt := 101) hx hb dX4_holder_89 (by decide) (fun c_66 => ?_) (fun c_66 => ?_)
                · skip
                  have c_66' : a2.toInt = 0 := jb_eq (rfl) ((by decide)) c_66
                  exact C101 wt_12 _ _ (hh_16.sub (L1 := [(r0, 6, 11, .int wt_12), (r0, 6, 9, .ref rb), (r0, 6, 10, .int pe)]) [1, 2, 3] rfl (M1 := []) [] rfl (I1 := []) [] rfl) (by first | omega | (refine ⟨?_, ?_⟩ <;> (first | omega | rfl | assumption | decide | exact Or.inl rfl | exact Or.inr rfl | (simp only; omega)))) _ (lv_sub hl [1, 2, 3, 4, 5, 6, 7, 0] rfl)
                · skip
                  have c_66' : a2.toInt ≠ 0 := jb_eq_n (rfl) ((by decide)) c_66
                  refine lv_aload_n hx hb dX4_holder_92 rfl (lv_at hl 1 rfl) ?_
                  refine va_calli (A0 := jA base) (H0 := s.heap) (va_runV (As := []) (rest := []) ⟨hx, hb, hml, hown, hts⟩ (uX4_isString l dC dI ca base B hB hAp hB6 hB100 hB146 G0 H_12 r0 rb n_rb pe wt_12) (cwV 0 hts (jgV (jWr_20 _ (List.mem_of_getElem? (i := 8) rfl)) (jWr_20 _ (List.mem_of_getElem? (i := 9) rfl)) (jWr_20 _ (List.mem_of_getElem? (i := 10) rfl)) (jWr_1 _ (List.mem_of_getElem? (i := 22) rfl)) (jWr_20 _ (List.mem_of_getElem? (i := 11) rfl))) rfl rfl rfl (by decide +kernel) ⟨by rw [← hR]; show (6) + 1 ≤ 2 * ef + 9; omega, by rw [← hR]; show 8 + (4 + 11) + (185) ≤ 130 * ef + 560; omega⟩) ⟨fun a U g mk q => by obtain ⟨q0, q1, q2, qK, q10, q11, q12, q13⟩ := q; exact ⟨q0, q1, q2, jG.calling g mk a qK, q10, q11, q12, q13⟩, hh_16.recv (C := RX4) (T := TX4) (N := 12) hB6 rfl (by decide) hg_r0 hK, fun U hU hW => ⟨rfl, hU, hh_16.2.1, hG.step hW hU hh_16.1, hg_r0, hg_rb, (hh_16.2.2.1.sub (L1 := [(r0, 6, 9, .ref rb), (r0, 6, 10, .int pe), (r0, 6, 11, .int wt_12)]) [2, 3, 1] rfl), by first | omega | (refine ⟨?_, ?_, ?_, ?_, ?_, ?_⟩ <;> (first | omega | rfl | assumption | decide | exact Or.inl rfl | exact Or.inr rfl | (simp only; omega)))⟩⟩ rfl rfl hl.1 rfl (lv_room (Nat.le_of_ble_eq_true rfl)) dX4_holder_93 ⟨Nat.zero_le _, Nat.zero_le _⟩) hh_16.1 (fun q _ h => h) (fun q h => h) (fun r_68 u_67 t_67 H_67 locs_67 ht_67 hvm_67 hr_68 hb_67 hz_67 hk_67 hS_67 => ?_)
                  obtain ⟨qt_67, rfl⟩ : ∃ z, z = u_67 := ⟨_, rfl⟩
                  rw [ht_67] at hb_67
                  obtain ⟨hb_671, hb_672, hb_673, hb_674, hb_675⟩ := hb_67
                  have hh_67 : jSt (dC, dI) B base G0 G0 EX4_holder s.heap 0 0 [(r0, 6, 11, .int qt_67), (r0, 6, 9, .ref rb), (r0, 6, 10, .int pe)] [] [] H_67 locs_67 := ((hh_16.call hb_671 hb_672 hb_673 hb_674 hS_67 rfl (L1 := [(r0, 6, 9, .ref rb), (r0, 6, 10, .int pe)]) [2, 3] rfl rfl (M1 := []) [] rfl rfl (I1 := []) [] rfl rfl).more hb_675)
                  clear hh_16 ht_67 hvm_67 hz_67 hk_67 hS_67 hb_671 hb_672 hb_673 hb_674 hb_675
                  obtain ⟨hr_68b, hr_68p⟩ := hr_68
                  obtain ⟨hr_68p_0, hr_68p_1⟩ := hr_68p
                  have hr_68' := jb_01 hr_68b
                  refine lv_if_ne (tgt := 101) hx hb dX4_holder_96 (by decide) (fun c_69 => ?_) (fun c_69 => ?_)
                  · skip
                    have c_69' : r_68.toInt ≠ 0 := jb_ne (rfl) ((by decide)) c_69
                    exact C101 qt_67 _ _ hh_67 (by first | omega | (refine ⟨?_, ?_⟩ <;> (first | omega | rfl | assumption | decide | exact Or.inl rfl | exact Or.inr rfl | (simp only; omega)))) _ (lv_sub hl [1, 2, 3, 4, 5, 6, 7, 0] rfl)
                  · skip
                    have c_69' : r_68.toInt = 0 := jb_ne_n (rfl) ((by decide)) c_69
                    refine lv_iconst (v := (-1)) hx hb dX4_holder_99 (by decide) ?_
                    rw [hQ]
                    exact W.iret (v := (-1)) hx hb hr (fun t ht hW => ⟨⟨(-1), qt_67, rfl, by first | omega | (refine ⟨?_, ?_, ?_, ?_, ?_⟩ <;> (first | omega | rfl | assumption | decide | exact Or.inl rfl | exact Or.inr rfl | (simp only; omega))), hh_67.rt (M1 := [(r0, 6, 11, .int qt_67)]) [0] rfl ht⟩, by rw [ht]; try exact hh_67.1.1, fun q h9 hq => by rw [ht]; try exact hh_67.1.2.1 q h9 hq⟩) hh_67.1.2.2 dX4_holder_100
        exact L70 (1502 - (0 : Int32).toInt : Int).toNat.succ (-1) 0 qt_7 _ _ hh_9 (by first | omega | (refine ⟨?_, ?_, ?_, ?_, ?_, ?_⟩ <;> (first | omega | rfl | assumption | decide | exact Or.inl rfl | exact Or.inr rfl | (simp only; omega)))) (by omega) _ (lv_sub hl [3, 4, 5, 6, 2, 1, 0] rfl)
      · skip
        have c_11' : r_10.toInt = w0_4.toInt := jb_ne_n (rfl) (rfl) c_11
        first | (have hr_10_2q := hr_10_2.resolve_left (by omega); clear hr_10_2) | (have hr_10_2q := hr_10_2.resolve_right (by omega); clear hr_10_2) | try clear hr_10_2
        refine lv_aload_n hx hb dX4_holder_52 rfl (lv_at hl 1 rfl) ?_
        refine lv_dup hx hb dX4_holder_53 rfl ?_
        refine j7_read hx hb hown hK (C := RX4) (T := TX4) (N := 12) rfl hly_6_11 hlk_47 (hh_9.at 0 rfl) dX4_holder_54 ?_
        refine lv_iconst (v := 1) hx hb dX4_holder_57 (by decide) ?_
        refine lv_iadd hx hb dX4_holder_58 ?_
        refine lv_topi (fun z_70 ez_70 => ?_)
        have hz_70 : z_70.toInt = qt_7.toInt + 1 := by rw [ez_70]; exact jb_iadd2 (rfl) ((by decide)) (by omega)
        refine j7_put hx hb hown hK hh_9 hB hAp hB6 (C := RX4) (T := TX4) (N := 12) rfl (by decide) hg_r0 (i := 11) (by decide) hly_6_11 rfl hlk_47 rfl (ty := .int) (v := .int z_70) (by decide +kernel) rfl rfl (⟨_, rfl, by omega, by omega⟩) rfl (L1 := [(r0, 6, 9, .ref rb), (r0, 6, 10, .int pe)]) [1, 2] rfl rfl rfl dX4_holder_59 (fun H_71 locs_71 hh_71 => ?_)
        clear hh_9
        refine lv_iload_n hx hb dX4_holder_62 rfl (lv_at hl 4 rfl) ?_
        rw [hQ]
        exact W.iret (v := r_3) hx hb hr (fun t ht hW => ⟨⟨r_3, z_70, rfl, by first | omega | (refine ⟨?_, ?_, ?_, ?_, ?_⟩ <;> (first | omega | rfl | assumption | decide | exact Or.inl rfl | exact Or.inr rfl | (simp only; omega))), hh_71.rt (M1 := [(r0, 6, 11, .int z_70)]) [0] rfl ht⟩, by rw [ht]; try exact hh_71.1.1, fun q h9 hq => by rw [ht]; try exact hh_71.1.2.1 q h9 hq⟩) hh_71.1.2.2 dX4_holder_63
    refine lv_if_eq (tgt := 25) hx hb dX4_holder_17 (by decide) (fun c_72 => ?_) (fun c_72 => ?_)
    · skip
      have c_72' : a2.toInt = 0 := jb_eq (rfl) ((by decide)) c_72
      refine lv_bipush (v := 93) hx hb dX4_holder_25 (by decide) ?_
      exact C27 93 _ _ hh_2 (by first | omega | (refine ⟨?_, ?_⟩ <;> (first | omega | rfl | assumption | decide | exact Or.inl rfl | exact Or.inr rfl | (simp only; omega)))) _ (lv_sub hl [1, 2, 3, 0] rfl)
    · skip
      have c_72' : a2.toInt ≠ 0 := jb_eq_n (rfl) ((by decide)) c_72
      refine lv_bipush (v := 125) hx hb dX4_holder_20 (by decide) ?_
      refine lv_goto (tgt := 27) hx hb dX4_holder_22 (by decide) ?_
      exact C27 125 _ _ hh_2 (by first | omega | (refine ⟨?_, ?_⟩ <;> (first | omega | rfl | assumption | decide | exact Or.inl rfl | exact Or.inr rfl | (simp only; omega)))) _ (lv_sub hl [1, 2, 3, 0] rfl)
  refine lv_if_eq (tgt := 9) hx hb dX4_holder_2 (by decide) (fun c_73 => ?_) (fun c_73 => ?_)
  · skip
    have c_73' : a2.toInt = 0 := jb_eq (rfl) ((by decide)) c_73
    refine lv_iconst (v := 2) hx hb dX4_holder_9 (by decide) ?_
    exact C10 2 _ _ hh (trivial) _ (lv_sub hl [0, 1, 2] rfl)
  · skip
    have c_73' : a2.toInt ≠ 0 := jb_eq_n (rfl) ((by decide)) c_73
    refine lv_iconst (v := 1) hx hb dX4_holder_5 (by decide) ?_
    refine lv_goto (tgt := 10) hx hb dX4_holder_6 (by decide) ?_
    exact C10 1 _ _ hh (trivial) _ (lv_sub hl [0, 1, 2] rfl)
theorem aX4_valueHolder (l : Launch) (dC : Nat → ClassId) (dI : Nat → Nat → Nat) (ca : Nat → ClassId) (base : Nat) (B : jF) (hB : jBok B) (hAp : jAp (dC, dI)) (hB6 : ∀ n G a H, B 6 n G a H ↔ jOb (dC, dI) 6 12 (F6 n G) a H) (hB100 : ∀ n G a H, B 100 n G a H ↔ jAr (dC, dI) (ca 0) (fun j z => True) n a H) (hB140 : ∀ n G a H, B 140 n G a H ↔ jAr (dC, dI) (ca 1) (fun j z => True) n a H) (hB141 : ∀ n G a H, B 141 n G a H ↔ jAr (dC, dI) (ca 1) (fun j z => True) n a H) (hB142 : ∀ n G a H, B 142 n G a H ↔ jAr (dC, dI) (ca 1) (fun j z => True) n a H) (hB143 : ∀ n G a H, B 143 n G a H ↔ jAr (dC, dI) (ca 1) (fun j z => True) n a H) (hB144 : ∀ n G a H, B 144 n G a H ↔ jAr (dC, dI) (ca 1) (fun j z => 0 ≤ z.toInt ∧ z.toInt ≤ 3000) n a H) (hB145 : ∀ n G a H, B 145 n G a H ↔ jAr (dC, dI) (ca 1) (fun j z => True) n a H) (hB146 : ∀ n G a H, B 146 n G a H ↔ jAr (dC, dI) (ca 1) (fun j z => True) n a H) : ∀ ef, qX4_value l dC dI ca base B ef ∧ qX4_holder l dC dI ca base B ef := fun ef => Nat.strongRecOn ef (fun e ih => by
  have hV : qX4_value l dC dI ca base B e := fun G0 H0 r0 a1 rb nb pe pt => uX4_value l dC dI ca base B hB hAp hB6 hB100 hB140 hB141 hB142 hB143 hB144 hB145 hB146 e (fun e1 h => (ih e1 h).2) G0 H0 r0 a1 rb nb pe pt
  exact ⟨hV, fun G0 H0 r0 a1 a2 rb nb pe pt => uX4_holder l dC dI ca base B hB hAp hB6 hB100 hB140 hB141 hB142 hB143 hB144 hB145 hB146 e hV G0 H0 r0 a1 a2 rb nb pe pt⟩)
