theorem dX13_readImp_0 : decode cX13_readImp 0 = .ok (.aload_n 0, 1) := by decide +kernel
theorem dX13_readImp_1 : decode cX13_readImp 1 = .ok (.iload_n 1, 1) := by decide +kernel
theorem dX13_readImp_2 : decode cX13_readImp 2 = .ok (.invokevirtual 209, 3) := by decide +kernel
theorem dX13_readImp_5 : decode cX13_readImp 5 = .ok (.istore_n 2, 1) := by decide +kernel
theorem dX13_readImp_6 : decode cX13_readImp 6 = .ok (.aload_n 0, 1) := by decide +kernel
theorem dX13_readImp_7 : decode cX13_readImp 7 = .ok (.getfield 181, 3) := by decide +kernel
theorem dX13_readImp_10 : decode cX13_readImp 10 = .ok (.ifCond .ne 12, 3) := by decide +kernel
theorem dX13_readImp_13 : decode cX13_readImp 13 = .ok (.aload_n 0, 1) := by decide +kernel
theorem dX13_readImp_14 : decode cX13_readImp 14 = .ok (.bipush 62, 2) := by decide +kernel
theorem dX13_readImp_16 : decode cX13_readImp 16 = .ok (.invokevirtual 178, 3) := by decide +kernel
theorem dX13_readImp_19 : decode cX13_readImp 19 = .ok (.ifCond .ne 5, 3) := by decide +kernel
theorem dX13_readImp_22 : decode cX13_readImp 22 = .ok (.iload_n 2, 1) := by decide +kernel
theorem dX13_readImp_23 : decode cX13_readImp 23 = .ok (.ireturn, 1) := by decide +kernel
theorem dX13_readImp_24 : decode cX13_readImp 24 = .ok (.aload_n 0, 1) := by decide +kernel
theorem dX13_readImp_25 : decode cX13_readImp 25 = .ok (.dup, 1) := by decide +kernel
theorem dX13_readImp_26 : decode cX13_readImp 26 = .ok (.getfield 171, 3) := by decide +kernel
theorem dX13_readImp_29 : decode cX13_readImp 29 = .ok (.iconst 1, 1) := by decide +kernel
theorem dX13_readImp_30 : decode cX13_readImp 30 = .ok (.iadd, 1) := by decide +kernel
theorem dX13_readImp_31 : decode cX13_readImp 31 = .ok (.putfield 171, 3) := by decide +kernel
theorem dX13_readImp_34 : decode cX13_readImp 34 = .ok (.aload_n 0, 1) := by decide +kernel
theorem dX13_readImp_35 : decode cX13_readImp 35 = .ok (.iconst 0, 1) := by decide +kernel
theorem dX13_readImp_36 : decode cX13_readImp 36 = .ok (.iconst 0, 1) := by decide +kernel
theorem dX13_readImp_37 : decode cX13_readImp 37 = .ok (.iload_n 2, 1) := by decide +kernel
theorem dX13_readImp_38 : decode cX13_readImp 38 = .ok (.aload_n 0, 1) := by decide +kernel
theorem dX13_readImp_39 : decode cX13_readImp 39 = .ok (.iload_n 1, 1) := by decide +kernel
theorem dX13_readImp_40 : decode cX13_readImp 40 = .ok (.invokevirtual 212, 3) := by decide +kernel
theorem dX13_readImp_43 : decode cX13_readImp 43 = .ok (.iconst 0, 1) := by decide +kernel
theorem dX13_readImp_44 : decode cX13_readImp 44 = .ok (.invokevirtual 197, 3) := by decide +kernel
theorem dX13_readImp_47 : decode cX13_readImp 47 = .ok (.ireturn, 1) := by decide +kernel
theorem dX13_readOr_0 : decode cX13_readOr 0 = .ok (.aload_n 0, 1) := by decide +kernel
theorem dX13_readOr_1 : decode cX13_readOr 1 = .ok (.iload_n 1, 1) := by decide +kernel
theorem dX13_readOr_2 : decode cX13_readOr 2 = .ok (.invokevirtual 215, 3) := by decide +kernel
theorem dX13_readOr_5 : decode cX13_readOr 5 = .ok (.istore_n 2, 1) := by decide +kernel
theorem dX13_readOr_6 : decode cX13_readOr 6 = .ok (.aload_n 0, 1) := by decide +kernel
theorem dX13_readOr_7 : decode cX13_readOr 7 = .ok (.getfield 181, 3) := by decide +kernel
theorem dX13_readOr_10 : decode cX13_readOr 10 = .ok (.ifCond .ne 12, 3) := by decide +kernel
theorem dX13_readOr_13 : decode cX13_readOr 13 = .ok (.aload_n 0, 1) := by decide +kernel
theorem dX13_readOr_14 : decode cX13_readOr 14 = .ok (.bipush 43, 2) := by decide +kernel
theorem dX13_readOr_16 : decode cX13_readOr 16 = .ok (.invokevirtual 178, 3) := by decide +kernel
theorem dX13_readOr_19 : decode cX13_readOr 19 = .ok (.ifCond .ne 5, 3) := by decide +kernel
theorem dX13_readOr_22 : decode cX13_readOr 22 = .ok (.iload_n 2, 1) := by decide +kernel
theorem dX13_readOr_23 : decode cX13_readOr 23 = .ok (.ireturn, 1) := by decide +kernel
theorem dX13_readOr_24 : decode cX13_readOr 24 = .ok (.aload_n 0, 1) := by decide +kernel
theorem dX13_readOr_25 : decode cX13_readOr 25 = .ok (.dup, 1) := by decide +kernel
theorem dX13_readOr_26 : decode cX13_readOr 26 = .ok (.getfield 171, 3) := by decide +kernel
theorem dX13_readOr_29 : decode cX13_readOr 29 = .ok (.iconst 1, 1) := by decide +kernel
theorem dX13_readOr_30 : decode cX13_readOr 30 = .ok (.iadd, 1) := by decide +kernel
theorem dX13_readOr_31 : decode cX13_readOr 31 = .ok (.putfield 171, 3) := by decide +kernel
theorem dX13_readOr_34 : decode cX13_readOr 34 = .ok (.aload_n 0, 1) := by decide +kernel
theorem dX13_readOr_35 : decode cX13_readOr 35 = .ok (.iconst 2, 1) := by decide +kernel
theorem dX13_readOr_36 : decode cX13_readOr 36 = .ok (.iconst 0, 1) := by decide +kernel
theorem dX13_readOr_37 : decode cX13_readOr 37 = .ok (.iload_n 2, 1) := by decide +kernel
theorem dX13_readOr_38 : decode cX13_readOr 38 = .ok (.aload_n 0, 1) := by decide +kernel
theorem dX13_readOr_39 : decode cX13_readOr 39 = .ok (.iload_n 1, 1) := by decide +kernel
theorem dX13_readOr_40 : decode cX13_readOr 40 = .ok (.invokevirtual 209, 3) := by decide +kernel
theorem dX13_readOr_43 : decode cX13_readOr 43 = .ok (.iconst 0, 1) := by decide +kernel
theorem dX13_readOr_44 : decode cX13_readOr 44 = .ok (.invokevirtual 197, 3) := by decide +kernel
theorem dX13_readOr_47 : decode cX13_readOr 47 = .ok (.ireturn, 1) := by decide +kernel
theorem dX13_readAnd_0 : decode cX13_readAnd 0 = .ok (.aload_n 0, 1) := by decide +kernel
theorem dX13_readAnd_1 : decode cX13_readAnd 1 = .ok (.iload_n 1, 1) := by decide +kernel
theorem dX13_readAnd_2 : decode cX13_readAnd 2 = .ok (.invokevirtual 218, 3) := by decide +kernel
theorem dX13_readAnd_5 : decode cX13_readAnd 5 = .ok (.istore_n 2, 1) := by decide +kernel
theorem dX13_readAnd_6 : decode cX13_readAnd 6 = .ok (.aload_n 0, 1) := by decide +kernel
theorem dX13_readAnd_7 : decode cX13_readAnd 7 = .ok (.getfield 181, 3) := by decide +kernel
theorem dX13_readAnd_10 : decode cX13_readAnd 10 = .ok (.ifCond .ne 12, 3) := by decide +kernel
theorem dX13_readAnd_13 : decode cX13_readAnd 13 = .ok (.aload_n 0, 1) := by decide +kernel
theorem dX13_readAnd_14 : decode cX13_readAnd 14 = .ok (.bipush 42, 2) := by decide +kernel
theorem dX13_readAnd_16 : decode cX13_readAnd 16 = .ok (.invokevirtual 178, 3) := by decide +kernel
theorem dX13_readAnd_19 : decode cX13_readAnd 19 = .ok (.ifCond .ne 5, 3) := by decide +kernel
theorem dX13_readAnd_22 : decode cX13_readAnd 22 = .ok (.iload_n 2, 1) := by decide +kernel
theorem dX13_readAnd_23 : decode cX13_readAnd 23 = .ok (.ireturn, 1) := by decide +kernel
theorem dX13_readAnd_24 : decode cX13_readAnd 24 = .ok (.aload_n 0, 1) := by decide +kernel
theorem dX13_readAnd_25 : decode cX13_readAnd 25 = .ok (.dup, 1) := by decide +kernel
theorem dX13_readAnd_26 : decode cX13_readAnd 26 = .ok (.getfield 171, 3) := by decide +kernel
theorem dX13_readAnd_29 : decode cX13_readAnd 29 = .ok (.iconst 1, 1) := by decide +kernel
theorem dX13_readAnd_30 : decode cX13_readAnd 30 = .ok (.iadd, 1) := by decide +kernel
theorem dX13_readAnd_31 : decode cX13_readAnd 31 = .ok (.putfield 171, 3) := by decide +kernel
theorem dX13_readAnd_34 : decode cX13_readAnd 34 = .ok (.aload_n 0, 1) := by decide +kernel
theorem dX13_readAnd_35 : decode cX13_readAnd 35 = .ok (.iconst 1, 1) := by decide +kernel
theorem dX13_readAnd_36 : decode cX13_readAnd 36 = .ok (.iconst 0, 1) := by decide +kernel
theorem dX13_readAnd_37 : decode cX13_readAnd 37 = .ok (.iload_n 2, 1) := by decide +kernel
theorem dX13_readAnd_38 : decode cX13_readAnd 38 = .ok (.aload_n 0, 1) := by decide +kernel
theorem dX13_readAnd_39 : decode cX13_readAnd 39 = .ok (.iload_n 1, 1) := by decide +kernel
theorem dX13_readAnd_40 : decode cX13_readAnd 40 = .ok (.invokevirtual 215, 3) := by decide +kernel
theorem dX13_readAnd_43 : decode cX13_readAnd 43 = .ok (.iconst 0, 1) := by decide +kernel
theorem dX13_readAnd_44 : decode cX13_readAnd 44 = .ok (.invokevirtual 197, 3) := by decide +kernel
theorem dX13_readAnd_47 : decode cX13_readAnd 47 = .ok (.ireturn, 1) := by decide +kernel
theorem dX13_readOne_0 : decode cX13_readOne 0 = .ok (.aload_n 0, 1) := by decide +kernel
theorem dX13_readOne_1 : decode cX13_readOne 1 = .ok (.getfield 181, 3) := by decide +kernel
theorem dX13_readOne_4 : decode cX13_readOne 4 = .ok (.ifCond .eq 5, 3) := by decide +kernel
theorem dX13_readOne_7 : decode cX13_readOne 7 = .ok (.iconst 0, 1) := by decide +kernel
theorem dX13_readOne_8 : decode cX13_readOne 8 = .ok (.ireturn, 1) := by decide +kernel
theorem dX13_readOne_9 : decode cX13_readOne 9 = .ok (.aload_n 0, 1) := by decide +kernel
theorem dX13_readOne_10 : decode cX13_readOne 10 = .ok (.ldc 184, 2) := by decide +kernel
theorem dX13_readOne_12 : decode cX13_readOne 12 = .ok (.invokevirtual 186, 3) := by decide +kernel
theorem dX13_readOne_15 : decode cX13_readOne 15 = .ok (.istore_n 2, 1) := by decide +kernel
theorem dX13_readOne_16 : decode cX13_readOne 16 = .ok (.aload_n 0, 1) := by decide +kernel
theorem dX13_readOne_17 : decode cX13_readOne 17 = .ok (.bipush 126, 2) := by decide +kernel
theorem dX13_readOne_19 : decode cX13_readOne 19 = .ok (.invokevirtual 178, 3) := by decide +kernel
theorem dX13_readOne_22 : decode cX13_readOne 22 = .ok (.ifCond .ne 25, 3) := by decide +kernel
theorem dX13_readOne_25 : decode cX13_readOne 25 = .ok (.aload_n 0, 1) := by decide +kernel
theorem dX13_readOne_26 : decode cX13_readOne 26 = .ok (.bipush 40, 2) := by decide +kernel
theorem dX13_readOne_28 : decode cX13_readOne 28 = .ok (.invokevirtual 178, 3) := by decide +kernel
theorem dX13_readOne_31 : decode cX13_readOne 31 = .ok (.ifCond .ne 16, 3) := by decide +kernel
theorem dX13_readOne_34 : decode cX13_readOne 34 = .ok (.iload_n 2, 1) := by decide +kernel
theorem dX13_readOne_35 : decode cX13_readOne 35 = .ok (.ifCond .ne 12, 3) := by decide +kernel
theorem dX13_readOne_38 : decode cX13_readOne 38 = .ok (.aload_n 0, 1) := by decide +kernel
theorem dX13_readOne_39 : decode cX13_readOne 39 = .ok (.ldc 190, 2) := by decide +kernel
theorem dX13_readOne_41 : decode cX13_readOne 41 = .ok (.invokevirtual 186, 3) := by decide +kernel
theorem dX13_readOne_44 : decode cX13_readOne 44 = .ok (.ifCond .eq 7, 3) := by decide +kernel
theorem dX13_readOne_47 : decode cX13_readOne 47 = .ok (.iconst 1, 1) := by decide +kernel
theorem dX13_readOne_48 : decode cX13_readOne 48 = .ok (.goto 4, 3) := by decide +kernel
theorem dX13_readOne_51 : decode cX13_readOne 51 = .ok (.iconst 0, 1) := by decide +kernel
theorem dX13_readOne_52 : decode cX13_readOne 52 = .ok (.istore_n 3, 1) := by decide +kernel
theorem dX13_readOne_53 : decode cX13_readOne 53 = .ok (.iload_n 3, 1) := by decide +kernel
theorem dX13_readOne_54 : decode cX13_readOne 54 = .ok (.ifCond .eq 14, 3) := by decide +kernel
theorem dX13_readOne_57 : decode cX13_readOne 57 = .ok (.iload_n 1, 1) := by decide +kernel
theorem dX13_readOne_58 : decode cX13_readOne 58 = .ok (.bipush 12, 2) := by decide +kernel
theorem dX13_readOne_60 : decode cX13_readOne 60 = .ok (.if_icmp .ne 8, 3) := by decide +kernel
theorem dX13_readOne_63 : decode cX13_readOne 63 = .ok (.aload_n 0, 1) := by decide +kernel
theorem dX13_readOne_64 : decode cX13_readOne 64 = .ok (.iconst 1, 1) := by decide +kernel
theorem dX13_readOne_65 : decode cX13_readOne 65 = .ok (.putfield 181, 3) := by decide +kernel
theorem dX13_readOne_68 : decode cX13_readOne 68 = .ok (.aload_n 0, 1) := by decide +kernel
theorem dX13_readOne_69 : decode cX13_readOne 69 = .ok (.getfield 181, 3) := by decide +kernel
theorem dX13_readOne_72 : decode cX13_readOne 72 = .ok (.ifCond .eq 5, 3) := by decide +kernel
theorem dX13_readOne_75 : decode cX13_readOne 75 = .ok (.iconst 0, 1) := by decide +kernel
theorem dX13_readOne_76 : decode cX13_readOne 76 = .ok (.ireturn, 1) := by decide +kernel
theorem dX13_readOne_77 : decode cX13_readOne 77 = .ok (.aload_n 0, 1) := by decide +kernel
theorem dX13_readOne_78 : decode cX13_readOne 78 = .ok (.bipush 126, 2) := by decide +kernel
theorem dX13_readOne_80 : decode cX13_readOne 80 = .ok (.invokevirtual 178, 3) := by decide +kernel
theorem dX13_readOne_83 : decode cX13_readOne 83 = .ok (.ifCond .eq 41, 3) := by decide +kernel
theorem dX13_readOne_86 : decode cX13_readOne 86 = .ok (.aload_n 0, 1) := by decide +kernel
theorem dX13_readOne_87 : decode cX13_readOne 87 = .ok (.dup, 1) := by decide +kernel
theorem dX13_readOne_88 : decode cX13_readOne 88 = .ok (.getfield 171, 3) := by decide +kernel
theorem dX13_readOne_91 : decode cX13_readOne 91 = .ok (.iconst 1, 1) := by decide +kernel
theorem dX13_readOne_92 : decode cX13_readOne 92 = .ok (.iadd, 1) := by decide +kernel
theorem dX13_readOne_93 : decode cX13_readOne 93 = .ok (.putfield 171, 3) := by decide +kernel
theorem dX13_readOne_96 : decode cX13_readOne 96 = .ok (.aload_n 0, 1) := by decide +kernel
theorem dX13_readOne_97 : decode cX13_readOne 97 = .ok (.iload_n 1, 1) := by decide +kernel
theorem dX13_readOne_98 : decode cX13_readOne 98 = .ok (.iconst 1, 1) := by decide +kernel
theorem dX13_readOne_99 : decode cX13_readOne 99 = .ok (.iadd, 1) := by decide +kernel
theorem dX13_readOne_100 : decode cX13_readOne 100 = .ok (.invokevirtual 218, 3) := by decide +kernel
theorem dX13_readOne_103 : decode cX13_readOne 103 = .ok (.istore 4, 2) := by decide +kernel
theorem dX13_readOne_105 : decode cX13_readOne 105 = .ok (.aload_n 0, 1) := by decide +kernel
theorem dX13_readOne_106 : decode cX13_readOne 106 = .ok (.iconst 0, 1) := by decide +kernel
theorem dX13_readOne_107 : decode cX13_readOne 107 = .ok (.iconst 0, 1) := by decide +kernel
theorem dX13_readOne_108 : decode cX13_readOne 108 = .ok (.iload 4, 2) := by decide +kernel
theorem dX13_readOne_110 : decode cX13_readOne 110 = .ok (.aload_n 0, 1) := by decide +kernel
theorem dX13_readOne_111 : decode cX13_readOne 111 = .ok (.iconst 3, 1) := by decide +kernel
theorem dX13_readOne_112 : decode cX13_readOne 112 = .ok (.iconst 0, 1) := by decide +kernel
theorem dX13_readOne_113 : decode cX13_readOne 113 = .ok (.iconst 0, 1) := by decide +kernel
theorem dX13_readOne_114 : decode cX13_readOne 114 = .ok (.iconst 0, 1) := by decide +kernel
theorem dX13_readOne_115 : decode cX13_readOne 115 = .ok (.iconst 0, 1) := by decide +kernel
theorem dX13_readOne_116 : decode cX13_readOne 116 = .ok (.invokevirtual 197, 3) := by decide +kernel
theorem dX13_readOne_119 : decode cX13_readOne 119 = .ok (.iconst 0, 1) := by decide +kernel
theorem dX13_readOne_120 : decode cX13_readOne 120 = .ok (.invokevirtual 197, 3) := by decide +kernel
theorem dX13_readOne_123 : decode cX13_readOne 123 = .ok (.ireturn, 1) := by decide +kernel
theorem dX13_readOne_124 : decode cX13_readOne 124 = .ok (.aload_n 0, 1) := by decide +kernel
theorem dX13_readOne_125 : decode cX13_readOne 125 = .ok (.bipush 40, 2) := by decide +kernel
theorem dX13_readOne_127 : decode cX13_readOne 127 = .ok (.invokevirtual 178, 3) := by decide +kernel
theorem dX13_readOne_130 : decode cX13_readOne 130 = .ok (.ifCond .eq 31, 3) := by decide +kernel
theorem dX13_readOne_133 : decode cX13_readOne 133 = .ok (.aload_n 0, 1) := by decide +kernel
theorem dX13_readOne_134 : decode cX13_readOne 134 = .ok (.dup, 1) := by decide +kernel
theorem dX13_readOne_135 : decode cX13_readOne 135 = .ok (.getfield 171, 3) := by decide +kernel
theorem dX13_readOne_138 : decode cX13_readOne 138 = .ok (.iconst 1, 1) := by decide +kernel
theorem dX13_readOne_139 : decode cX13_readOne 139 = .ok (.iadd, 1) := by decide +kernel
theorem dX13_readOne_140 : decode cX13_readOne 140 = .ok (.putfield 171, 3) := by decide +kernel
theorem dX13_readOne_143 : decode cX13_readOne 143 = .ok (.aload_n 0, 1) := by decide +kernel
theorem dX13_readOne_144 : decode cX13_readOne 144 = .ok (.iload_n 1, 1) := by decide +kernel
theorem dX13_readOne_145 : decode cX13_readOne 145 = .ok (.iconst 1, 1) := by decide +kernel
theorem dX13_readOne_146 : decode cX13_readOne 146 = .ok (.iadd, 1) := by decide +kernel
theorem dX13_readOne_147 : decode cX13_readOne 147 = .ok (.invokevirtual 212, 3) := by decide +kernel
theorem dX13_readOne_150 : decode cX13_readOne 150 = .ok (.istore 4, 2) := by decide +kernel
theorem dX13_readOne_152 : decode cX13_readOne 152 = .ok (.aload_n 0, 1) := by decide +kernel
theorem dX13_readOne_153 : decode cX13_readOne 153 = .ok (.bipush 41, 2) := by decide +kernel
theorem dX13_readOne_155 : decode cX13_readOne 155 = .ok (.invokevirtual 205, 3) := by decide +kernel
theorem dX13_readOne_158 : decode cX13_readOne 158 = .ok (.iload 4, 2) := by decide +kernel
theorem dX13_readOne_160 : decode cX13_readOne 160 = .ok (.ireturn, 1) := by decide +kernel
theorem dX13_readOne_161 : decode cX13_readOne 161 = .ok (.iload_n 3, 1) := by decide +kernel
theorem dX13_readOne_162 : decode cX13_readOne 162 = .ok (.ifCond .eq 61, 3) := by decide +kernel
theorem dX13_readOne_165 : decode cX13_readOne 165 = .ok (.aload_n 0, 1) := by decide +kernel
theorem dX13_readOne_166 : decode cX13_readOne 166 = .ok (.dup, 1) := by decide +kernel
theorem dX13_readOne_167 : decode cX13_readOne 167 = .ok (.getfield 171, 3) := by decide +kernel
theorem dX13_readOne_170 : decode cX13_readOne 170 = .ok (.iconst 1, 1) := by decide +kernel
theorem dX13_readOne_171 : decode cX13_readOne 171 = .ok (.iadd, 1) := by decide +kernel
theorem dX13_readOne_172 : decode cX13_readOne 172 = .ok (.putfield 171, 3) := by decide +kernel
theorem dX13_readOne_175 : decode cX13_readOne 175 = .ok (.aload_n 0, 1) := by decide +kernel
theorem dX13_readOne_176 : decode cX13_readOne 176 = .ok (.invokevirtual 194, 3) := by decide +kernel
theorem dX13_readOne_179 : decode cX13_readOne 179 = .ok (.istore 4, 2) := by decide +kernel
theorem dX13_readOne_181 : decode cX13_readOne 181 = .ok (.aload_n 0, 1) := by decide +kernel
theorem dX13_readOne_182 : decode cX13_readOne 182 = .ok (.bipush 44, 2) := by decide +kernel
theorem dX13_readOne_184 : decode cX13_readOne 184 = .ok (.invokevirtual 205, 3) := by decide +kernel
theorem dX13_readOne_187 : decode cX13_readOne 187 = .ok (.aload_n 0, 1) := by decide +kernel
theorem dX13_readOne_188 : decode cX13_readOne 188 = .ok (.getfield 181, 3) := by decide +kernel
theorem dX13_readOne_191 : decode cX13_readOne 191 = .ok (.ifCond .eq 7, 3) := by decide +kernel
theorem dX13_readOne_194 : decode cX13_readOne 194 = .ok (.iconst 0, 1) := by decide +kernel
theorem dX13_readOne_195 : decode cX13_readOne 195 = .ok (.goto 27, 3) := by decide +kernel
theorem dX13_readOne_198 : decode cX13_readOne 198 = .ok (.aload_n 0, 1) := by decide +kernel
theorem dX13_readOne_199 : decode cX13_readOne 199 = .ok (.iload_n 2, 1) := by decide +kernel
theorem dX13_readOne_200 : decode cX13_readOne 200 = .ok (.ifCond .eq 7, 3) := by decide +kernel
theorem dX13_readOne_203 : decode cX13_readOne 203 = .ok (.iconst 4, 1) := by decide +kernel
theorem dX13_readOne_204 : decode cX13_readOne 204 = .ok (.goto 4, 3) := by decide +kernel
theorem dX13_readOne_207 : decode cX13_readOne 207 = .ok (.iconst 5, 1) := by decide +kernel
theorem dX13_readOne_208 : decode cX13_readOne 208 = .ok (.iload 4, 2) := by decide +kernel
theorem dX13_readOne_210 : decode cX13_readOne 210 = .ok (.aload_n 0, 1) := by decide +kernel
theorem dX13_readOne_211 : decode cX13_readOne 211 = .ok (.iload_n 1, 1) := by decide +kernel
theorem dX13_readOne_212 : decode cX13_readOne 212 = .ok (.iconst 1, 1) := by decide +kernel
theorem dX13_readOne_213 : decode cX13_readOne 213 = .ok (.iadd, 1) := by decide +kernel
theorem dX13_readOne_214 : decode cX13_readOne 214 = .ok (.invokevirtual 212, 3) := by decide +kernel
theorem dX13_readOne_217 : decode cX13_readOne 217 = .ok (.iconst 0, 1) := by decide +kernel
theorem dX13_readOne_218 : decode cX13_readOne 218 = .ok (.iconst 0, 1) := by decide +kernel
theorem dX13_readOne_219 : decode cX13_readOne 219 = .ok (.invokevirtual 197, 3) := by decide +kernel
theorem dX13_readOne_222 : decode cX13_readOne 222 = .ok (.ireturn, 1) := by decide +kernel
theorem dX13_readOne_223 : decode cX13_readOne 223 = .ok (.aload_n 0, 1) := by decide +kernel
theorem dX13_readOne_224 : decode cX13_readOne 224 = .ok (.ldc 192, 2) := by decide +kernel
theorem dX13_readOne_226 : decode cX13_readOne 226 = .ok (.invokevirtual 186, 3) := by decide +kernel
theorem dX13_readOne_229 : decode cX13_readOne 229 = .ok (.ifCond .eq 23, 3) := by decide +kernel
theorem dX13_readOne_232 : decode cX13_readOne 232 = .ok (.aload_n 0, 1) := by decide +kernel
theorem dX13_readOne_233 : decode cX13_readOne 233 = .ok (.dup, 1) := by decide +kernel
theorem dX13_readOne_234 : decode cX13_readOne 234 = .ok (.getfield 171, 3) := by decide +kernel
theorem dX13_readOne_237 : decode cX13_readOne 237 = .ok (.iconst 1, 1) := by decide +kernel
theorem dX13_readOne_238 : decode cX13_readOne 238 = .ok (.iadd, 1) := by decide +kernel
theorem dX13_readOne_239 : decode cX13_readOne 239 = .ok (.putfield 171, 3) := by decide +kernel
theorem dX13_readOne_242 : decode cX13_readOne 242 = .ok (.aload_n 0, 1) := by decide +kernel
theorem dX13_readOne_243 : decode cX13_readOne 243 = .ok (.iconst 3, 1) := by decide +kernel
theorem dX13_readOne_244 : decode cX13_readOne 244 = .ok (.iconst 0, 1) := by decide +kernel
theorem dX13_readOne_245 : decode cX13_readOne 245 = .ok (.iconst 0, 1) := by decide +kernel
theorem dX13_readOne_246 : decode cX13_readOne 246 = .ok (.iconst 0, 1) := by decide +kernel
theorem dX13_readOne_247 : decode cX13_readOne 247 = .ok (.iconst 0, 1) := by decide +kernel
theorem dX13_readOne_248 : decode cX13_readOne 248 = .ok (.invokevirtual 197, 3) := by decide +kernel
theorem dX13_readOne_251 : decode cX13_readOne 251 = .ok (.ireturn, 1) := by decide +kernel
theorem dX13_readOne_252 : decode cX13_readOne 252 = .ok (.aload_n 0, 1) := by decide +kernel
theorem dX13_readOne_253 : decode cX13_readOne 253 = .ok (.iload_n 1, 1) := by decide +kernel
theorem dX13_readOne_254 : decode cX13_readOne 254 = .ok (.invokevirtual 201, 3) := by decide +kernel
theorem dX13_readOne_257 : decode cX13_readOne 257 = .ok (.istore 4, 2) := by decide +kernel
theorem dX13_readOne_259 : decode cX13_readOne 259 = .ok (.aload_n 0, 1) := by decide +kernel
theorem dX13_readOne_260 : decode cX13_readOne 260 = .ok (.getfield 181, 3) := by decide +kernel
theorem dX13_readOne_263 : decode cX13_readOne 263 = .ok (.ifCond .ne 12, 3) := by decide +kernel
theorem dX13_readOne_266 : decode cX13_readOne 266 = .ok (.aload_n 0, 1) := by decide +kernel
theorem dX13_readOne_267 : decode cX13_readOne 267 = .ok (.bipush 61, 2) := by decide +kernel
theorem dX13_readOne_269 : decode cX13_readOne 269 = .ok (.invokevirtual 178, 3) := by decide +kernel
theorem dX13_readOne_272 : decode cX13_readOne 272 = .ok (.ifCond .ne 6, 3) := by decide +kernel
theorem dX13_readOne_275 : decode cX13_readOne 275 = .ok (.iload 4, 2) := by decide +kernel
theorem dX13_readOne_277 : decode cX13_readOne 277 = .ok (.ireturn, 1) := by decide +kernel
theorem dX13_readOne_278 : decode cX13_readOne 278 = .ok (.aload_n 0, 1) := by decide +kernel
theorem dX13_readOne_279 : decode cX13_readOne 279 = .ok (.dup, 1) := by decide +kernel
theorem dX13_readOne_280 : decode cX13_readOne 280 = .ok (.getfield 171, 3) := by decide +kernel
theorem dX13_readOne_283 : decode cX13_readOne 283 = .ok (.iconst 1, 1) := by decide +kernel
theorem dX13_readOne_284 : decode cX13_readOne 284 = .ok (.iadd, 1) := by decide +kernel
theorem dX13_readOne_285 : decode cX13_readOne 285 = .ok (.putfield 171, 3) := by decide +kernel
theorem dX13_readOne_288 : decode cX13_readOne 288 = .ok (.aload_n 0, 1) := by decide +kernel
theorem dX13_readOne_289 : decode cX13_readOne 289 = .ok (.bipush 6, 2) := by decide +kernel
theorem dX13_readOne_291 : decode cX13_readOne 291 = .ok (.iconst 0, 1) := by decide +kernel
theorem dX13_readOne_292 : decode cX13_readOne 292 = .ok (.iload 4, 2) := by decide +kernel
theorem dX13_readOne_294 : decode cX13_readOne 294 = .ok (.aload_n 0, 1) := by decide +kernel
theorem dX13_readOne_295 : decode cX13_readOne 295 = .ok (.iload_n 1, 1) := by decide +kernel
theorem dX13_readOne_296 : decode cX13_readOne 296 = .ok (.invokevirtual 201, 3) := by decide +kernel
theorem dX13_readOne_299 : decode cX13_readOne 299 = .ok (.iconst 0, 1) := by decide +kernel
theorem dX13_readOne_300 : decode cX13_readOne 300 = .ok (.invokevirtual 197, 3) := by decide +kernel
theorem dX13_readOne_303 : decode cX13_readOne 303 = .ok (.ireturn, 1) := by decide +kernel
def EX13_readOne : List (Nat × Nat) := [(15, 5), (15, 32), (15, 33), (150, 0), (151, 0), (152, 0), (153, 0), (154, 0)]
def EX13_readAnd : List (Nat × Nat) := [(15, 5), (15, 32), (15, 33), (150, 0), (151, 0), (152, 0), (153, 0), (154, 0)]
def EX13_readOr : List (Nat × Nat) := [(15, 5), (15, 32), (15, 33), (150, 0), (151, 0), (152, 0), (153, 0), (154, 0)]
def EX13_readImp : List (Nat × Nat) := [(15, 5), (15, 32), (15, 33), (150, 0), (151, 0), (152, 0), (153, 0), (154, 0)]
def qX13_readOne (l : Launch) (dC : Nat → ClassId) (dI : Nat → Nat → Nat) (ca : Nat → ClassId) (base : Nat) (B : jF) (ef : Nat) (d : Nat) : Prop := ∀ (G0 : jT) (H0 : Heap) (r0 : Nat) (a1 : Int32) (pk : Int32) (pa : Int32) (pn : Int32) (ak : Nat) (n_ak : Nat) (aw : Nat) (n_aw : Nat) (fk : Nat → Int32) (fw : Nat → Int32), Met l yX13_readOne (jw yX13_readOne cX13_readOne 5 (some .int)) ({ frames := ef + 4 * d + 14, cells := 0, slots := 0, locals := 30 * ef + 120 * d + 600 }) (va_Pc [.ref r0, .int a1] (fun U => U.heap = H0 ∧ jX B base G0 [] H0 ∧ jG dC dI ca base U ∧ G0 r0 = some (15, 0) ∧ G0 ak = some (167, n_ak) ∧ G0 aw = some (157, n_aw) ∧ jP (dC, dI) G0 H0 [(r0, 15, 30, .int pk), (r0, 15, 32, .int pa), (r0, 15, 5, .int pn), (r0, 15, 28, .ref ak), (r0, 15, 29, .ref aw)] ∧ jMc (dC, dI) G0 H0 [(ak, 167, n_ak, ca 1, fk), (aw, 157, n_aw, ca 1, fw)] ∧ 0 ≤ pa.toInt ∧ pa.toInt ≤ pk.toInt ∧ pk.toInt ≤ 1500 ∧ 0 ≤ pn.toInt ∧ pn.toInt + 4 * (pk.toInt - pa.toInt) ≤ 119980 ∧ a1.toInt = 12 - d ∧ d ≤ 12 ∧ n_ak = 1500 ∧ n_aw = 1500 ∧ pk.toInt - pa.toInt ≤ ef)) (va_Qi (S := Int32 × Int32) (fun r u => (0 ≤ r.toInt ∧ r.toInt ≤ 119999 ∧ pa.toInt ≤ u.1.toInt ∧ u.1.toInt ≤ pk.toInt ∧ pn.toInt ≤ u.2.toInt ∧ u.2.toInt ≤ pn.toInt + 4 * (u.1.toInt - pa.toInt) + 3)) (fun u t => jRt (dC, dI) B base G0 EX13_readOne H0 [(r0, 15, 32, .int u.1), (r0, 15, 5, .int u.2)] t.heap) (jA base)) 0 0 (jA base)
def qX13_readAnd (l : Launch) (dC : Nat → ClassId) (dI : Nat → Nat → Nat) (ca : Nat → ClassId) (base : Nat) (B : jF) (ef : Nat) (d : Nat) : Prop := ∀ (G0 : jT) (H0 : Heap) (r0 : Nat) (a1 : Int32) (pk : Int32) (pa : Int32) (pn : Int32) (ak : Nat) (n_ak : Nat) (aw : Nat) (n_aw : Nat) (fk : Nat → Int32) (fw : Nat → Int32), Met l yX13_readAnd (jw yX13_readAnd cX13_readAnd 3 (some .int)) ({ frames := ef + 4 * d + 15, cells := 0, slots := 0, locals := 30 * ef + 120 * d + 630 }) (va_Pc [.ref r0, .int a1] (fun U => U.heap = H0 ∧ jX B base G0 [] H0 ∧ jG dC dI ca base U ∧ G0 r0 = some (15, 0) ∧ G0 ak = some (167, n_ak) ∧ G0 aw = some (157, n_aw) ∧ jP (dC, dI) G0 H0 [(r0, 15, 30, .int pk), (r0, 15, 32, .int pa), (r0, 15, 5, .int pn), (r0, 15, 28, .ref ak), (r0, 15, 29, .ref aw)] ∧ jMc (dC, dI) G0 H0 [(ak, 167, n_ak, ca 1, fk), (aw, 157, n_aw, ca 1, fw)] ∧ 0 ≤ pa.toInt ∧ pa.toInt ≤ pk.toInt ∧ pk.toInt ≤ 1500 ∧ 0 ≤ pn.toInt ∧ pn.toInt + 4 * (pk.toInt - pa.toInt) ≤ 119980 ∧ a1.toInt = 12 - d ∧ d ≤ 12 ∧ n_ak = 1500 ∧ n_aw = 1500 ∧ pk.toInt - pa.toInt ≤ ef)) (va_Qi (S := Int32 × Int32) (fun r u => (0 ≤ r.toInt ∧ r.toInt ≤ 119999 ∧ pa.toInt ≤ u.1.toInt ∧ u.1.toInt ≤ pk.toInt ∧ pn.toInt ≤ u.2.toInt ∧ u.2.toInt ≤ pn.toInt + 4 * (u.1.toInt - pa.toInt) + 3)) (fun u t => jRt (dC, dI) B base G0 EX13_readAnd H0 [(r0, 15, 32, .int u.1), (r0, 15, 5, .int u.2)] t.heap) (jA base)) 0 0 (jA base)
def qX13_readOr (l : Launch) (dC : Nat → ClassId) (dI : Nat → Nat → Nat) (ca : Nat → ClassId) (base : Nat) (B : jF) (ef : Nat) (d : Nat) : Prop := ∀ (G0 : jT) (H0 : Heap) (r0 : Nat) (a1 : Int32) (pk : Int32) (pa : Int32) (pn : Int32) (ak : Nat) (n_ak : Nat) (aw : Nat) (n_aw : Nat) (fk : Nat → Int32) (fw : Nat → Int32), Met l yX13_readOr (jw yX13_readOr cX13_readOr 3 (some .int)) ({ frames := ef + 4 * d + 16, cells := 0, slots := 0, locals := 30 * ef + 120 * d + 660 }) (va_Pc [.ref r0, .int a1] (fun U => U.heap = H0 ∧ jX B base G0 [] H0 ∧ jG dC dI ca base U ∧ G0 r0 = some (15, 0) ∧ G0 ak = some (167, n_ak) ∧ G0 aw = some (157, n_aw) ∧ jP (dC, dI) G0 H0 [(r0, 15, 30, .int pk), (r0, 15, 32, .int pa), (r0, 15, 5, .int pn), (r0, 15, 28, .ref ak), (r0, 15, 29, .ref aw)] ∧ jMc (dC, dI) G0 H0 [(ak, 167, n_ak, ca 1, fk), (aw, 157, n_aw, ca 1, fw)] ∧ 0 ≤ pa.toInt ∧ pa.toInt ≤ pk.toInt ∧ pk.toInt ≤ 1500 ∧ 0 ≤ pn.toInt ∧ pn.toInt + 4 * (pk.toInt - pa.toInt) ≤ 119980 ∧ a1.toInt = 12 - d ∧ d ≤ 12 ∧ n_ak = 1500 ∧ n_aw = 1500 ∧ pk.toInt - pa.toInt ≤ ef)) (va_Qi (S := Int32 × Int32) (fun r u => (0 ≤ r.toInt ∧ r.toInt ≤ 119999 ∧ pa.toInt ≤ u.1.toInt ∧ u.1.toInt ≤ pk.toInt ∧ pn.toInt ≤ u.2.toInt ∧ u.2.toInt ≤ pn.toInt + 4 * (u.1.toInt - pa.toInt) + 3)) (fun u t => jRt (dC, dI) B base G0 EX13_readOr H0 [(r0, 15, 32, .int u.1), (r0, 15, 5, .int u.2)] t.heap) (jA base)) 0 0 (jA base)
def qX13_readImp (l : Launch) (dC : Nat → ClassId) (dI : Nat → Nat → Nat) (ca : Nat → ClassId) (base : Nat) (B : jF) (ef : Nat) (d : Nat) : Prop := ∀ (G0 : jT) (H0 : Heap) (r0 : Nat) (a1 : Int32) (pk : Int32) (pa : Int32) (pn : Int32) (ak : Nat) (n_ak : Nat) (aw : Nat) (n_aw : Nat) (fk : Nat → Int32) (fw : Nat → Int32), Met l yX13_readImp (jw yX13_readImp cX13_readImp 3 (some .int)) ({ frames := ef + 4 * d + 17, cells := 0, slots := 0, locals := 30 * ef + 120 * d + 690 }) (va_Pc [.ref r0, .int a1] (fun U => U.heap = H0 ∧ jX B base G0 [] H0 ∧ jG dC dI ca base U ∧ G0 r0 = some (15, 0) ∧ G0 ak = some (167, n_ak) ∧ G0 aw = some (157, n_aw) ∧ jP (dC, dI) G0 H0 [(r0, 15, 30, .int pk), (r0, 15, 32, .int pa), (r0, 15, 5, .int pn), (r0, 15, 28, .ref ak), (r0, 15, 29, .ref aw)] ∧ jMc (dC, dI) G0 H0 [(ak, 167, n_ak, ca 1, fk), (aw, 157, n_aw, ca 1, fw)] ∧ 0 ≤ pa.toInt ∧ pa.toInt ≤ pk.toInt ∧ pk.toInt ≤ 1500 ∧ 0 ≤ pn.toInt ∧ pn.toInt + 4 * (pk.toInt - pa.toInt) ≤ 119980 ∧ a1.toInt = 12 - d ∧ d ≤ 12 ∧ n_ak = 1500 ∧ n_aw = 1500 ∧ pk.toInt - pa.toInt ≤ ef)) (va_Qi (S := Int32 × Int32) (fun r u => (0 ≤ r.toInt ∧ r.toInt ≤ 119999 ∧ pa.toInt ≤ u.1.toInt ∧ u.1.toInt ≤ pk.toInt ∧ pn.toInt ≤ u.2.toInt ∧ u.2.toInt ≤ pn.toInt + 4 * (u.1.toInt - pa.toInt) + 3)) (fun u t => jRt (dC, dI) B base G0 EX13_readImp H0 [(r0, 15, 32, .int u.1), (r0, 15, 5, .int u.2)] t.heap) (jA base)) 0 0 (jA base)
set_option maxHeartbeats 4000000 in
set_option maxRecDepth 20000 in
theorem uX13_readOne (l : Launch) (dC : Nat → ClassId) (dI : Nat → Nat → Nat) (ca : Nat → ClassId) (base : Nat) (B : jF) (hB : jBok B) (hAp : jAp (dC, dI)) (hB15 : ∀ n G a H, B 15 n G a H ↔ jOb (dC, dI) 15 50 (F15 n G) a H) (hB150 : ∀ n G a H, B 150 n G a H ↔ jAr (dC, dI) (ca 1) (fun j z => True) n a H) (hB151 : ∀ n G a H, B 151 n G a H ↔ jAr (dC, dI) (ca 1) (fun j z => True) n a H) (hB152 : ∀ n G a H, B 152 n G a H ↔ jAr (dC, dI) (ca 1) (fun j z => True) n a H) (hB153 : ∀ n G a H, B 153 n G a H ↔ jAr (dC, dI) (ca 1) (fun j z => True) n a H) (hB154 : ∀ n G a H, B 154 n G a H ↔ jAr (dC, dI) (ca 1) (fun j z => True) n a H) (hB155 : ∀ n G a H, B 155 n G a H ↔ jAr (dC, dI) (ca 1) (fun j z => 0 ≤ z.toInt ∧ z.toInt ≤ 11990) n a H) (hB156 : ∀ n G a H, B 156 n G a H ↔ jAr (dC, dI) (ca 1) (fun j z => 0 ≤ z.toInt ∧ z.toInt ≤ 10) n a H) (hB157 : ∀ n G a H, B 157 n G a H ↔ jAr (dC, dI) (ca 1) (fun j z => 0 ≤ z.toInt ∧ z.toInt ≤ 1599) n a H) (hB166 : ∀ n G a H, B 166 n G a H ↔ jAr (dC, dI) (ca 1) (fun j z => True) n a H) (hB167 : ∀ n G a H, B 167 n G a H ↔ jAr (dC, dI) (ca 1) (fun j z => True) n a H) (ef : Nat) (d : Nat) (ihO : ∀ e1 d1, e1 < ef → qX13_readOne l dC dI ca base B e1 d1) (ihI : ∀ e1 d1, e1 < ef → qX13_readImp l dC dI ca base B e1 d1) (G0 : jT) (H0 : Heap) (r0 : Nat) (a1 : Int32) (pk : Int32) (pa : Int32) (pn : Int32) (ak : Nat) (n_ak : Nat) (aw : Nat) (n_aw : Nat) (fk : Nat → Int32) (fw : Nat → Int32) : Met l yX13_readOne (jw yX13_readOne cX13_readOne 5 (some .int)) ({ frames := ef + 4 * d + 14, cells := 0, slots := 0, locals := 30 * ef + 120 * d + 600 }) (va_Pc [.ref r0, .int a1] (fun U => U.heap = H0 ∧ jX B base G0 [] H0 ∧ jG dC dI ca base U ∧ G0 r0 = some (15, 0) ∧ G0 ak = some (167, n_ak) ∧ G0 aw = some (157, n_aw) ∧ jP (dC, dI) G0 H0 [(r0, 15, 30, .int pk), (r0, 15, 32, .int pa), (r0, 15, 5, .int pn), (r0, 15, 28, .ref ak), (r0, 15, 29, .ref aw)] ∧ jMc (dC, dI) G0 H0 [(ak, 167, n_ak, ca 1, fk), (aw, 157, n_aw, ca 1, fw)] ∧ 0 ≤ pa.toInt ∧ pa.toInt ≤ pk.toInt ∧ pk.toInt ≤ 1500 ∧ 0 ≤ pn.toInt ∧ pn.toInt + 4 * (pk.toInt - pa.toInt) ≤ 119980 ∧ a1.toInt = 12 - d ∧ d ≤ 12 ∧ n_ak = 1500 ∧ n_aw = 1500 ∧ pk.toInt - pa.toInt ≤ ef)) (va_Qi (S := Int32 × Int32) (fun r u => (0 ≤ r.toInt ∧ r.toInt ≤ 119999 ∧ pa.toInt ≤ u.1.toInt ∧ u.1.toInt ≤ pk.toInt ∧ pn.toInt ≤ u.2.toInt ∧ u.2.toInt ≤ pn.toInt + 4 * (u.1.toInt - pa.toInt) + 3)) (fun u t => jRt (dC, dI) B base G0 EX13_readOne H0 [(r0, 15, 32, .int u.1), (r0, 15, 5, .int u.2)] t.heap) (jA base)) 0 0 (jA base) := by
  refine Met.ofW (cc := cX13_readOne) (maxL := 5) (ret := (some .int)) (by decide) rfl ?_
  intro p e s m args below meth c s₁ Bd hml hv
  obtain ⟨rfl, hH0, hX, hG, hg_r0, hg_ak, hg_aw, hP0, hM0, hp0, hp1, hp2, hp3, hp4, hp5, hp6, hp7, hp8, hp9⟩ := hv
  have hK := hG.1
  have hx := Bd.exec
  have hb := Bd.bytes
  have hr := Bd.returns
  have hts := atoms_spec (ws := (jw yX13_readOne cX13_readOne 5 (some .int))) Bd.pre
  have htw : ∀ w ∈ jWl, w.before _ s = true := fun w h => hts w (List.mem_cons_of_mem _ h)
  have hown : s.vm.findClass RX13 = some m.cls := findClass_of_methodNamed Bd.named
  have hlocks := Bd.notSynchronized
  obtain ⟨Q, hQ⟩ : ∃ Q, Q = MQ below (va_Qi (S := Int32 × Int32) (fun r u => (0 ≤ r.toInt ∧ r.toInt ≤ 119999 ∧ pa.toInt ≤ u.1.toInt ∧ u.1.toInt ≤ pk.toInt ∧ pn.toInt ≤ u.2.toInt ∧ u.2.toInt ≤ pn.toInt + 4 * (u.1.toInt - pa.toInt) + 3)) (fun u t => jRt (dC, dI) B base G0 EX13_readOne H0 [(r0, 15, 32, .int u.1), (r0, 15, 5, .int u.2)] t.heap) (jA base)) ([.ref r0, .int a1] : List Value).toArray s 0 0 (jA base) := ⟨_, rfl⟩
  rw [← hQ]
  have hl := lv_entry ([.ref r0, .int a1]) (n := 5) (Nat.le_of_ble_eq_true rfl)
  rw [lg_entry_eq]
  generalize (lg_sl ([.ref r0, .int a1]) ++ List.replicate (5 - (lg_sl ([.ref r0, .int a1])).length) Slot.unset).toArray = ls at hl ⊢
  have hl : lv_has ls 5 [(0, .ref r0), (1, .int a1)] := hl
  generalize hR : (headSpec (jw yX13_readOne cX13_readOne 5 (some .int)) ({ frames := ef + 4 * d + 14, cells := 0, slots := 0, locals := 30 * ef + 120 * d + 600 })).room = R
  subst hH0
  have hh : jSt (dC, dI) B base G0 G0 EX13_readOne s.heap 0 0 [(r0, 15, 30, .int pk), (r0, 15, 32, .int pa), (r0, 15, 5, .int pn), (r0, 15, 28, .ref ak), (r0, 15, 29, .ref aw)] [(ak, 167, n_ak, ca 1, fk), (aw, 157, n_aw, ca 1, fw)] [] s.heap [] := jSt.start hX hP0 hM0 jIs.nil
  clear hX hP0
  have hk0 : (0 : Int32).toInt = 0 := by decide
  have hk1 : (1 : Int32).toInt = 1 := by decide
  have hk3 : (3 : Int32).toInt = 3 := by decide
  have hk4 : (4 : Int32).toInt = 4 := by decide
  have hk5 : (5 : Int32).toInt = 5 := by decide
  have hk6 : (6 : Int32).toInt = 6 := by decide
  have hk12 : (12 : Int32).toInt = 12 := by decide
  have hk40 : (40 : Int32).toInt = 40 := by decide
  have hk41 : (41 : Int32).toInt = 41 := by decide
  have hk44 : (44 : Int32).toInt = 44 := by decide
  have hk61 : (61 : Int32).toInt = 61 := by decide
  have hk126 : (126 : Int32).toInt = 126 := by decide
  have hly_15_32 := htw (u_lay RX13 TX13 32) (jWc_wsX130 _ (u_in_lay (by decide)))
  have hly_15_33 := htw (u_lay RX13 TX13 33) (jWc_wsX130 _ (u_in_lay (by decide)))
  have hlk_181 := (htw (.fieldLink RX13 181 "ProofServerModel$Kernel" "wrong" "Z") (jWr_60 _ (List.mem_of_getElem? (i := 2) rfl)))
  obtain ⟨str184, rstr184, hstr1840⟩ := hG.str (o := RX13) (k := 184) (tx := "forall") (List.mem_of_getElem? (i := 2609) (by decide +kernel))
  have hstr184 : jStr base str184 6 s s.heap := hstr1840
  obtain ⟨str190, rstr190, hstr1900⟩ := hG.str (o := RX13) (k := 190) (tx := "exists") (List.mem_of_getElem? (i := 2618) (by decide +kernel))
  have hstr190 : jStr base str190 6 s s.heap := hstr1900
  have hlk_171 := (htw (.fieldLink RX13 171 "ProofServerModel$Kernel" "at" "I") (jWr_61 _ (List.mem_of_getElem? (i := 11) rfl)))
  obtain ⟨str192, rstr192, hstr1920⟩ := hG.str (o := RX13) (k := 192) (tx := "False") (List.mem_of_getElem? (i := 2619) (by decide +kernel))
  have hstr192 : jStr base str192 5 s s.heap := hstr1920
  have hrg_a1 := jb_rng a1
  have hj126 := jTk_le fk fw pa.toInt pk.toInt (126 : Int32).toInt
  have hj40 := jTk_le fk fw pa.toInt pk.toInt (40 : Int32).toInt
  refine lv_aload_n hx hb dX13_readOne_0 rfl (lv_at hl 0 rfl) ?_
  obtain ⟨v_1, hv_1, hh_2⟩ := hh.pin (C := RX13) (T := TX13) (N := 50) hB15 rfl (by decide) hg_r0 (i := 33) (by decide) rfl
  clear hh
  obtain ⟨wrong_3, rfl, hzwrong_3⟩ := hv_1
  have hzwrong_3' := jb_01 hzwrong_3
  refine j7_read hx hb hown hK (C := RX13) (T := TX13) (N := 50) rfl hly_15_33 hlk_181 (hh_2.at 0 rfl) dX13_readOne_1 ?_
  refine lv_if_eq (tgt := 9) hx hb dX13_readOne_4 (by decide) (fun c_4 => ?_) (fun c_4 => ?_)
  · skip
    have c_4' : wrong_3.toInt = 0 := jb_eq (rfl) ((by decide)) c_4
    refine lv_aload_n hx hb dX13_readOne_9 rfl (lv_at hl 0 rfl) ?_
    refine va_ldcS hx hb hown rstr184 dX13_readOne_10 ?_
    refine va_calli (A0 := jA base) (H0 := s.heap) (va_runV (As := [.ref str184]) (rest := []) ⟨hx, hb, hml, hown, hts⟩ (uX13_isWord l dC dI ca base B hB hAp hB15 hB155 hB156 hB157 hB166 hB167 G0 s.heap r0 str184 6 pk pa) (cwV 1 hts (jgV (jWr_62 _ (List.mem_of_getElem? (i := 1) rfl)) (jWr_62 _ (List.mem_of_getElem? (i := 2) rfl)) (jWr_62 _ (List.mem_of_getElem? (i := 3) rfl)) (jWr_12 _ (List.mem_of_getElem? (i := 12) rfl)) (jWr_62 _ (List.mem_of_getElem? (i := 4) rfl))) rfl rfl rfl (by decide +kernel) ⟨by rw [← hR]; show (5) + 1 ≤ ef + 4 * d + 14; omega, by rw [← hR]; show 8 + (2 + 11) + (165) ≤ 30 * ef + 120 * d + 600; omega⟩) ⟨fun a U g mk q => by obtain ⟨q0, q1, q2, qK, q10, q11, q12, q13⟩ := q; exact ⟨q0, q1, q2, jG.calling g mk a qK, (q10.moved (Vm.Alike.refl U.vm)), q11, q12, q13⟩, hh_2.recv (C := RX13) (T := TX13) (N := 50) hB15 rfl (by decide) hg_r0 hK, fun U hU hW => ⟨rfl, hU, hh_2.2.1, hG.step hW hU hh_2.1, (hstr184.moved hW.alike).kept hh_2.1.2.1, hg_r0, (hh_2.2.2.1.sub (L1 := [(r0, 15, 30, .int pk), (r0, 15, 32, .int pa)]) [1, 2] rfl), by first | omega | (refine ⟨?_, ?_, ?_, ?_, ?_⟩ <;> (first | omega | rfl | assumption | decide | exact Or.inl rfl | exact Or.inr rfl | (simp only; omega)))⟩⟩ rfl rfl hl.1 rfl (lv_room (Nat.le_of_ble_eq_true rfl)) dX13_readOne_12 ⟨Nat.zero_le _, Nat.zero_le _⟩) hh_2.1 (fun q _ h => h) (fun q h => h) (fun r_6 u_5 t_5 H_5 locs_5 ht_5 hvm_5 hr_6 hb_5 hz_5 hk_5 hS_5 => ?_)
    rw [ht_5] at hb_5
    obtain ⟨hb_51, hb_52, hb_53, hb_54, hb_55⟩ := hb_5
    have hh_5 : jSt (dC, dI) B base G0 G0 EX13_readOne s.heap 0 0 [(r0, 15, 33, .int wrong_3), (r0, 15, 30, .int pk), (r0, 15, 32, .int pa), (r0, 15, 5, .int pn), (r0, 15, 28, .ref ak), (r0, 15, 29, .ref aw)] [(ak, 167, n_ak, ca 1, fk), (aw, 157, n_aw, ca 1, fw)] [] H_5 locs_5 := ((hh_2.call hb_51 hb_52 hb_53 hb_54 hS_5 rfl (L1 := [(r0, 15, 33, .int wrong_3), (r0, 15, 30, .int pk), (r0, 15, 32, .int pa), (r0, 15, 5, .int pn), (r0, 15, 28, .ref ak), (r0, 15, 29, .ref aw)]) [0, 1, 2, 3, 4, 5] rfl rfl (M1 := [(ak, 167, n_ak, ca 1, fk), (aw, 157, n_aw, ca 1, fw)]) [0, 1] rfl rfl (I1 := []) [] rfl rfl).more hb_55)
    clear hh_2 ht_5 hvm_5 hz_5 hk_5 hS_5 hb_51 hb_52 hb_53 hb_54 hb_55
    obtain ⟨hr_6b, hr_6p⟩ := hr_6
    have hr_6' := jb_01 hr_6b
    refine lv_istore_n (lv' := [(2, .int r_6), (0, .ref r0), (1, .int a1)]) hx hb dX13_readOne_15 rfl hl (by decide) rfl (fun ls hl => ?_)
    refine lv_aload_n hx hb dX13_readOne_16 rfl (lv_at hl 1 rfl) ?_
    refine lv_bipush (v := 126) hx hb dX13_readOne_17 (by decide) ?_
    refine va_calli (A0 := jA base) (H0 := s.heap) (va_runV (As := [.int 126]) (rest := []) ⟨hx, hb, hml, hown, hts⟩ (uX13_is l dC dI ca base B hB hAp hB15 hB157 hB167 G0 H_5 r0 126 pk pa ak n_ak aw n_aw fk fw) (cwV 1 hts (jgV (jWr_62 _ (List.mem_of_getElem? (i := 13) rfl)) (jWr_62 _ (List.mem_of_getElem? (i := 14) rfl)) (jWr_62 _ (List.mem_of_getElem? (i := 15) rfl)) (jWr_12 _ (List.mem_of_getElem? (i := 12) rfl)) (jWr_62 _ (List.mem_of_getElem? (i := 16) rfl))) rfl rfl rfl (by decide +kernel) ⟨by rw [← hR]; show (0) + 1 ≤ ef + 4 * d + 14; omega, by rw [← hR]; show 8 + (2 + 11) + (0) ≤ 30 * ef + 120 * d + 600; omega⟩) ⟨fun a U g mk q => by obtain ⟨q0, q1, q2, qK, q10, q11, q12, q13, q14, q15⟩ := q; exact ⟨q0, q1, q2, jG.calling g mk a qK, q10, q11, q12, q13, q14, q15⟩, hh_5.recv (C := RX13) (T := TX13) (N := 50) hB15 rfl (by decide) hg_r0 hK, fun U hU hW => ⟨rfl, hU, hh_5.2.1, hG.step hW hU hh_5.1, hg_r0, hg_ak, hg_aw, (hh_5.2.2.1.sub (L1 := [(r0, 15, 30, .int pk), (r0, 15, 32, .int pa), (r0, 15, 28, .ref ak), (r0, 15, 29, .ref aw)]) [1, 2, 4, 5] rfl), (hh_5.2.2.2.2.2.2.2.1.sub (L1 := [(ak, 167, n_ak, ca 1, fk), (aw, 157, n_aw, ca 1, fw)]) [0, 1] rfl), by first | omega | (refine ⟨?_, ?_, ?_, ?_, ?_, ?_⟩ <;> (first | omega | rfl | assumption | decide | exact Or.inl rfl | exact Or.inr rfl | (simp only; omega)))⟩⟩ rfl rfl hl.1 rfl (lv_room (Nat.le_of_ble_eq_true rfl)) dX13_readOne_19 ⟨Nat.zero_le _, Nat.zero_le _⟩) hh_5.1 (fun q _ h => h) (fun q h => h) (fun r_8 u_7 t_7 H_7 locs_7 ht_7 hvm_7 hr_8 hb_7 hz_7 hk_7 hS_7 => ?_)
    rw [ht_7] at hb_7
    obtain ⟨hb_71, hb_72, hb_73, hb_74, hb_75⟩ := hb_7
    have hh_7 : jSt (dC, dI) B base G0 G0 EX13_readOne s.heap 0 0 [(r0, 15, 33, .int wrong_3), (r0, 15, 30, .int pk), (r0, 15, 32, .int pa), (r0, 15, 5, .int pn), (r0, 15, 28, .ref ak), (r0, 15, 29, .ref aw)] [(ak, 167, n_ak, ca 1, fk), (aw, 157, n_aw, ca 1, fw)] [] H_7 locs_7 := ((hh_5.call hb_71 hb_72 hb_73 hb_74 hS_7 rfl (L1 := [(r0, 15, 33, .int wrong_3), (r0, 15, 30, .int pk), (r0, 15, 32, .int pa), (r0, 15, 5, .int pn), (r0, 15, 28, .ref ak), (r0, 15, 29, .ref aw)]) [0, 1, 2, 3, 4, 5] rfl rfl (M1 := [(ak, 167, n_ak, ca 1, fk), (aw, 157, n_aw, ca 1, fw)]) [0, 1] rfl rfl (I1 := []) [] rfl rfl).more hb_75)
    clear hh_5 ht_7 hvm_7 hz_7 hk_7 hS_7 hb_71 hb_72 hb_73 hb_74 hb_75
    obtain ⟨hr_8b, hr_8p⟩ := hr_8
    obtain ⟨hr_8p_0, hr_8p_1⟩ := hr_8p
    have hr_8' := jb_01 hr_8b
    have C52 : ∀ (w0_9 : Int32) (H_9 : Heap) (locs_9 : List Loc), jSt (dC, dI) B base G0 G0 EX13_readOne s.heap 0 0 [(r0, 15, 33, .int wrong_3), (r0, 15, 30, .int pk), (r0, 15, 32, .int pa), (r0, 15, 5, .int pn), (r0, 15, 28, .ref ak), (r0, 15, 29, .ref aw)] [(ak, 167, n_ak, ca 1, fk), (aw, 157, n_aw, ca 1, fw)] [] H_9 locs_9 → (w0_9 = 0 ∨ w0_9 = 1) → (jTk fk fw pa.toInt pk.toInt (126 : Int32).toInt ≤ w0_9.toInt ∧ jTk fk fw pa.toInt pk.toInt (40 : Int32).toInt ≤ w0_9.toInt ∧ pa.toInt + 1 ≤ pk.toInt + 100000 * (1 - w0_9.toInt)) → ∀ ls : Array Slot, lv_has ls 5 [(0, .ref r0), (1, .int a1), (2, .int r_6)] → W p l e R s m ([.ref r0, .int a1] : List Value).toArray below meth c H_9 locs_9 0 0 Q (F0 m 52 ls [.int w0_9]) := by
      intro w0_9 H_9 locs_9 hh_9 hb_w0_9 hi_9 ls hl
      obtain ⟨hi_9_0, hi_9_1, hi_9_2⟩ := hi_9
      have hb_w0_9' := jb_01 hb_w0_9
      try clear hr_6p
      refine lv_istore_n (lv' := [(3, .int w0_9), (0, .ref r0), (1, .int a1), (2, .int r_6)]) hx hb dX13_readOne_52 rfl hl (by decide) rfl (fun ls hl => ?_)
      refine lv_iload_n hx hb dX13_readOne_53 rfl (lv_at hl 0 rfl) ?_
      have C68 : ∀ (ww_10 : Int32) (H_10 : Heap) (locs_10 : List Loc), jSt (dC, dI) B base G0 G0 EX13_readOne s.heap 0 0 [(r0, 15, 33, .int ww_10), (r0, 15, 30, .int pk), (r0, 15, 32, .int pa), (r0, 15, 5, .int pn), (r0, 15, 28, .ref ak), (r0, 15, 29, .ref aw)] [(ak, 167, n_ak, ca 1, fk), (aw, 157, n_aw, ca 1, fw)] [] H_10 locs_10 → (0 ≤ ww_10.toInt ∧ ww_10.toInt ≤ 1 ∧ a1.toInt ≤ 11 + ww_10.toInt + 100 * (1 - w0_9.toInt)) → ∀ ls : Array Slot, lv_has ls 5 [(0, .ref r0), (1, .int a1), (2, .int r_6), (3, .int w0_9)] → W p l e R s m ([.ref r0, .int a1] : List Value).toArray below meth c H_10 locs_10 0 0 Q (F0 m 68 ls []) := by
        intro ww_10 H_10 locs_10 hh_10  hi_10 ls hl
        obtain ⟨hi_10_0, hi_10_1, hi_10_2⟩ := hi_10
        refine lv_aload_n hx hb dX13_readOne_68 rfl (lv_at hl 0 rfl) ?_
        refine j7_read hx hb hown hK (C := RX13) (T := TX13) (N := 50) rfl hly_15_33 hlk_181 (hh_10.at 0 rfl) dX13_readOne_69 ?_
        refine lv_if_eq (tgt := 77) hx hb dX13_readOne_72 (by decide) (fun c_11 => ?_) (fun c_11 => ?_)
        · skip
          have c_11' : ww_10.toInt = 0 := jb_eq (rfl) ((by decide)) c_11
          refine lv_aload_n hx hb dX13_readOne_77 rfl (lv_at hl 0 rfl) ?_
          refine lv_bipush (v := 126) hx hb dX13_readOne_78 (by decide) ?_
          refine va_calli (A0 := jA base) (H0 := s.heap) (va_runV (As := [.int 126]) (rest := []) ⟨hx, hb, hml, hown, hts⟩ (uX13_is l dC dI ca base B hB hAp hB15 hB157 hB167 G0 H_10 r0 126 pk pa ak n_ak aw n_aw fk fw) (cwV 1 hts (jgV (jWr_62 _ (List.mem_of_getElem? (i := 13) rfl)) (jWr_62 _ (List.mem_of_getElem? (i := 14) rfl)) (jWr_62 _ (List.mem_of_getElem? (i := 15) rfl)) (jWr_12 _ (List.mem_of_getElem? (i := 12) rfl)) (jWr_62 _ (List.mem_of_getElem? (i := 16) rfl))) rfl rfl rfl (by decide +kernel) ⟨by rw [← hR]; show (0) + 1 ≤ ef + 4 * d + 14; omega, by rw [← hR]; show 8 + (2 + 11) + (0) ≤ 30 * ef + 120 * d + 600; omega⟩) ⟨fun a U g mk q => by obtain ⟨q0, q1, q2, qK, q10, q11, q12, q13, q14, q15⟩ := q; exact ⟨q0, q1, q2, jG.calling g mk a qK, q10, q11, q12, q13, q14, q15⟩, hh_10.recv (C := RX13) (T := TX13) (N := 50) hB15 rfl (by decide) hg_r0 hK, fun U hU hW => ⟨rfl, hU, hh_10.2.1, hG.step hW hU hh_10.1, hg_r0, hg_ak, hg_aw, (hh_10.2.2.1.sub (L1 := [(r0, 15, 30, .int pk), (r0, 15, 32, .int pa), (r0, 15, 28, .ref ak), (r0, 15, 29, .ref aw)]) [1, 2, 4, 5] rfl), (hh_10.2.2.2.2.2.2.2.1.sub (L1 := [(ak, 167, n_ak, ca 1, fk), (aw, 157, n_aw, ca 1, fw)]) [0, 1] rfl), by first | omega | (refine ⟨?_, ?_, ?_, ?_, ?_, ?_⟩ <;> (first | omega | rfl | assumption | decide | exact Or.inl rfl | exact Or.inr rfl | (simp only; omega)))⟩⟩ rfl rfl hl.1 rfl (lv_room (Nat.le_of_ble_eq_true rfl)) dX13_readOne_80 ⟨Nat.zero_le _, Nat.zero_le _⟩) hh_10.1 (fun q _ h => h) (fun q h => h) (fun r_13 u_12 t_12 H_12 locs_12 ht_12 hvm_12 hr_13 hb_12 hz_12 hk_12 hS_12 => ?_)
          rw [ht_12] at hb_12
          obtain ⟨hb_121, hb_122, hb_123, hb_124, hb_125⟩ := hb_12
          have hh_12 : jSt (dC, dI) B base G0 G0 EX13_readOne s.heap 0 0 [(r0, 15, 33, .int ww_10), (r0, 15, 30, .int pk), (r0, 15, 32, .int pa), (r0, 15, 5, .int pn), (r0, 15, 28, .ref ak), (r0, 15, 29, .ref aw)] [(ak, 167, n_ak, ca 1, fk), (aw, 157, n_aw, ca 1, fw)] [] H_12 locs_12 := ((hh_10.call hb_121 hb_122 hb_123 hb_124 hS_12 rfl (L1 := [(r0, 15, 33, .int ww_10), (r0, 15, 30, .int pk), (r0, 15, 32, .int pa), (r0, 15, 5, .int pn), (r0, 15, 28, .ref ak), (r0, 15, 29, .ref aw)]) [0, 1, 2, 3, 4, 5] rfl rfl (M1 := [(ak, 167, n_ak, ca 1, fk), (aw, 157, n_aw, ca 1, fw)]) [0, 1] rfl rfl (I1 := []) [] rfl rfl).more hb_125)
          clear hh_10 ht_12 hvm_12 hz_12 hk_12 hS_12 hb_121 hb_122 hb_123 hb_124 hb_125
          obtain ⟨hr_13b, hr_13p⟩ := hr_13
          obtain ⟨hr_13p_0, hr_13p_1⟩ := hr_13p
          have hr_13' := jb_01 hr_13b
          refine lv_if_eq (tgt := 124) hx hb dX13_readOne_83 (by decide) (fun c_14 => ?_) (fun c_14 => ?_)
          · skip
            have c_14' : r_13.toInt = 0 := jb_eq (rfl) ((by decide)) c_14
            refine lv_aload_n hx hb dX13_readOne_124 rfl (lv_at hl 0 rfl) ?_
            refine lv_bipush (v := 40) hx hb dX13_readOne_125 (by decide) ?_
            refine va_calli (A0 := jA base) (H0 := s.heap) (va_runV (As := [.int 40]) (rest := []) ⟨hx, hb, hml, hown, hts⟩ (uX13_is l dC dI ca base B hB hAp hB15 hB157 hB167 G0 H_12 r0 40 pk pa ak n_ak aw n_aw fk fw) (cwV 1 hts (jgV (jWr_62 _ (List.mem_of_getElem? (i := 13) rfl)) (jWr_62 _ (List.mem_of_getElem? (i := 14) rfl)) (jWr_62 _ (List.mem_of_getElem? (i := 15) rfl)) (jWr_12 _ (List.mem_of_getElem? (i := 12) rfl)) (jWr_62 _ (List.mem_of_getElem? (i := 16) rfl))) rfl rfl rfl (by decide +kernel) ⟨by rw [← hR]; show (0) + 1 ≤ ef + 4 * d + 14; omega, by rw [← hR]; show 8 + (2 + 11) + (0) ≤ 30 * ef + 120 * d + 600; omega⟩) ⟨fun a U g mk q => by obtain ⟨q0, q1, q2, qK, q10, q11, q12, q13, q14, q15⟩ := q; exact ⟨q0, q1, q2, jG.calling g mk a qK, q10, q11, q12, q13, q14, q15⟩, hh_12.recv (C := RX13) (T := TX13) (N := 50) hB15 rfl (by decide) hg_r0 hK, fun U hU hW => ⟨rfl, hU, hh_12.2.1, hG.step hW hU hh_12.1, hg_r0, hg_ak, hg_aw, (hh_12.2.2.1.sub (L1 := [(r0, 15, 30, .int pk), (r0, 15, 32, .int pa), (r0, 15, 28, .ref ak), (r0, 15, 29, .ref aw)]) [1, 2, 4, 5] rfl), (hh_12.2.2.2.2.2.2.2.1.sub (L1 := [(ak, 167, n_ak, ca 1, fk), (aw, 157, n_aw, ca 1, fw)]) [0, 1] rfl), by first | omega | (refine ⟨?_, ?_, ?_, ?_, ?_, ?_⟩ <;> (first | omega | rfl | assumption | decide | exact Or.inl rfl | exact Or.inr rfl | (simp only; omega)))⟩⟩ rfl rfl hl.1 rfl (lv_room (Nat.le_of_ble_eq_true rfl)) dX13_readOne_127 ⟨Nat.zero_le _, Nat.zero_le _⟩) hh_12.1 (fun q _ h => h) (fun q h => h) (fun r_16 u_15 t_15 H_15 locs_15 ht_15 hvm_15 hr_16 hb_15 hz_15 hk_15 hS_15 => ?_)
            rw [ht_15] at hb_15
            obtain ⟨hb_151, hb_152, hb_153, hb_154, hb_155⟩ := hb_15
            have hh_15 : jSt (dC, dI) B base G0 G0 EX13_readOne s.heap 0 0 [(r0, 15, 33, .int ww_10), (r0, 15, 30, .int pk), (r0, 15, 32, .int pa), (r0, 15, 5, .int pn), (r0, 15, 28, .ref ak), (r0, 15, 29, .ref aw)] [(ak, 167, n_ak, ca 1, fk), (aw, 157, n_aw, ca 1, fw)] [] H_15 locs_15 := ((hh_12.call hb_151 hb_152 hb_153 hb_154 hS_15 rfl (L1 := [(r0, 15, 33, .int ww_10), (r0, 15, 30, .int pk), (r0, 15, 32, .int pa), (r0, 15, 5, .int pn), (r0, 15, 28, .ref ak), (r0, 15, 29, .ref aw)]) [0, 1, 2, 3, 4, 5] rfl rfl (M1 := [(ak, 167, n_ak, ca 1, fk), (aw, 157, n_aw, ca 1, fw)]) [0, 1] rfl rfl (I1 := []) [] rfl rfl).more hb_155)
            clear hh_12 ht_15 hvm_15 hz_15 hk_15 hS_15 hb_151 hb_152 hb_153 hb_154 hb_155
            obtain ⟨hr_16b, hr_16p⟩ := hr_16
            obtain ⟨hr_16p_0, hr_16p_1⟩ := hr_16p
            have hr_16' := jb_01 hr_16b
            refine lv_if_eq (tgt := 161) hx hb dX13_readOne_130 (by decide) (fun c_17 => ?_) (fun c_17 => ?_)
            · skip
              have c_17' : r_16.toInt = 0 := jb_eq (rfl) ((by decide)) c_17
              refine lv_iload_n hx hb dX13_readOne_161 rfl (lv_at hl 3 rfl) ?_
              refine lv_if_eq (tgt := 223) hx hb dX13_readOne_162 (by decide) (fun c_18 => ?_) (fun c_18 => ?_)
              · skip
                have c_18' : w0_9.toInt = 0 := jb_eq (rfl) ((by decide)) c_18
                refine lv_aload_n hx hb dX13_readOne_223 rfl (lv_at hl 0 rfl) ?_
                refine va_ldcS hx hb hown rstr192 dX13_readOne_224 ?_
                refine va_calli (A0 := jA base) (H0 := s.heap) (va_runV (As := [.ref str192]) (rest := []) ⟨hx, hb, hml, hown, hts⟩ (uX13_isWord l dC dI ca base B hB hAp hB15 hB155 hB156 hB157 hB166 hB167 G0 H_15 r0 str192 5 pk pa) (cwV 1 hts (jgV (jWr_62 _ (List.mem_of_getElem? (i := 1) rfl)) (jWr_62 _ (List.mem_of_getElem? (i := 2) rfl)) (jWr_62 _ (List.mem_of_getElem? (i := 3) rfl)) (jWr_12 _ (List.mem_of_getElem? (i := 12) rfl)) (jWr_62 _ (List.mem_of_getElem? (i := 4) rfl))) rfl rfl rfl (by decide +kernel) ⟨by rw [← hR]; show (5) + 1 ≤ ef + 4 * d + 14; omega, by rw [← hR]; show 8 + (2 + 11) + (165) ≤ 30 * ef + 120 * d + 600; omega⟩) ⟨fun a U g mk q => by obtain ⟨q0, q1, q2, qK, q10, q11, q12, q13⟩ := q; exact ⟨q0, q1, q2, jG.calling g mk a qK, (q10.moved (Vm.Alike.refl U.vm)), q11, q12, q13⟩, hh_15.recv (C := RX13) (T := TX13) (N := 50) hB15 rfl (by decide) hg_r0 hK, fun U hU hW => ⟨rfl, hU, hh_15.2.1, hG.step hW hU hh_15.1, (hstr192.moved hW.alike).kept hh_15.1.2.1, hg_r0, (hh_15.2.2.1.sub (L1 := [(r0, 15, 30, .int pk), (r0, 15, 32, .int pa)]) [1, 2] rfl), by first | omega | (refine ⟨?_, ?_, ?_, ?_, ?_⟩ <;> (first | omega | rfl | assumption | decide | exact Or.inl rfl | exact Or.inr rfl | (simp only; omega)))⟩⟩ rfl rfl hl.1 rfl (lv_room (Nat.le_of_ble_eq_true rfl)) dX13_readOne_226 ⟨Nat.zero_le _, Nat.zero_le _⟩) hh_15.1 (fun q _ h => h) (fun q h => h) (fun r_20 u_19 t_19 H_19 locs_19 ht_19 hvm_19 hr_20 hb_19 hz_19 hk_19 hS_19 => ?_)
                rw [ht_19] at hb_19
                obtain ⟨hb_191, hb_192, hb_193, hb_194, hb_195⟩ := hb_19
                have hh_19 : jSt (dC, dI) B base G0 G0 EX13_readOne s.heap 0 0 [(r0, 15, 33, .int ww_10), (r0, 15, 30, .int pk), (r0, 15, 32, .int pa), (r0, 15, 5, .int pn), (r0, 15, 28, .ref ak), (r0, 15, 29, .ref aw)] [(ak, 167, n_ak, ca 1, fk), (aw, 157, n_aw, ca 1, fw)] [] H_19 locs_19 := ((hh_15.call hb_191 hb_192 hb_193 hb_194 hS_19 rfl (L1 := [(r0, 15, 33, .int ww_10), (r0, 15, 30, .int pk), (r0, 15, 32, .int pa), (r0, 15, 5, .int pn), (r0, 15, 28, .ref ak), (r0, 15, 29, .ref aw)]) [0, 1, 2, 3, 4, 5] rfl rfl (M1 := [(ak, 167, n_ak, ca 1, fk), (aw, 157, n_aw, ca 1, fw)]) [0, 1] rfl rfl (I1 := []) [] rfl rfl).more hb_195)
                clear hh_15 ht_19 hvm_19 hz_19 hk_19 hS_19 hb_191 hb_192 hb_193 hb_194 hb_195
                obtain ⟨hr_20b, hr_20p⟩ := hr_20
                have hr_20' := jb_01 hr_20b
                refine lv_if_eq (tgt := 252) hx hb dX13_readOne_229 (by decide) (fun c_21 => ?_) (fun c_21 => ?_)
                · skip
                  have c_21' : r_20.toInt = 0 := jb_eq (rfl) ((by decide)) c_21
                  first | (have hr_20pq := hr_20p.resolve_left (by omega); clear hr_20p) | (have hr_20pq := hr_20p.resolve_right (by omega); clear hr_20p) | try clear hr_20p
                  refine lv_aload_n hx hb dX13_readOne_252 rfl (lv_at hl 0 rfl) ?_
                  refine lv_iload_n hx hb dX13_readOne_253 rfl (lv_at hl 1 rfl) ?_
                  refine va_calli (A0 := jA base) (H0 := s.heap) (va_runV (As := [.int a1]) (rest := []) ⟨hx, hb, hml, hown, hts⟩ (aX13_readTerm l dC dI ca base B hB hAp hB15 hB150 hB151 hB152 hB153 hB154 hB155 hB156 hB157 hB166 hB167 d G0 H_19 r0 a1 pk pa pn) (cwV 1 hts (jgV (jWr_61 _ (List.mem_of_getElem? (i := 17) rfl)) (jWr_61 _ (List.mem_of_getElem? (i := 18) rfl)) (jWr_61 _ (List.mem_of_getElem? (i := 19) rfl)) (jWr_12 _ (List.mem_of_getElem? (i := 12) rfl)) (jWr_61 _ (List.mem_of_getElem? (i := 20) rfl))) rfl rfl rfl (by decide +kernel) ⟨by rw [← hR]; show (d + 8) + 1 ≤ ef + 4 * d + 14; omega, by rw [← hR]; show 8 + (7 + 11) + (60 * d + 400) ≤ 30 * ef + 120 * d + 600; omega⟩) ⟨fun a U g mk q => by obtain ⟨q0, q1, q2, qK, q10, q11, q12⟩ := q; exact ⟨q0, q1, q2, jG.calling g mk a qK, q10, q11, q12⟩, hh_19.recv (C := RX13) (T := TX13) (N := 50) hB15 rfl (by decide) hg_r0 hK, fun U hU hW => ⟨rfl, hU, hh_19.2.1, hG.step hW hU hh_19.1, hg_r0, (hh_19.2.2.1.sub (L1 := [(r0, 15, 30, .int pk), (r0, 15, 32, .int pa), (r0, 15, 5, .int pn)]) [1, 2, 3] rfl), by first | omega | (refine ⟨?_, ?_, ?_, ?_, ?_, ?_, ?_⟩ <;> (first | omega | rfl | assumption | decide | exact Or.inl rfl | exact Or.inr rfl | (simp only; omega)))⟩⟩ rfl rfl hl.1 rfl (lv_room (Nat.le_of_ble_eq_true rfl)) dX13_readOne_254 ⟨Nat.zero_le _, Nat.zero_le _⟩) hh_19.1 (fun q _ h => h) (fun q h => h) (fun r_23 u_22 t_22 H_22 locs_22 ht_22 hvm_22 hr_23 hb_22 hz_22 hk_22 hS_22 => ?_)
                  obtain ⟨qa_22, qn_22⟩ := u_22
                  rw [ht_22] at hb_22
                  obtain ⟨hb_221, hb_222, hb_223, hb_224, hb_225⟩ := hb_22
                  have hh_22 : jSt (dC, dI) B base G0 G0 EX13_readOne s.heap 0 0 [(r0, 15, 32, .int qa_22), (r0, 15, 5, .int qn_22), (r0, 15, 30, .int pk), (r0, 15, 28, .ref ak), (r0, 15, 29, .ref aw)] [(ak, 167, n_ak, ca 1, fk), (aw, 157, n_aw, ca 1, fw)] [] H_22 locs_22 := ((hh_19.call hb_221 hb_222 hb_223 hb_224 hS_22 rfl (L1 := [(r0, 15, 30, .int pk), (r0, 15, 28, .ref ak), (r0, 15, 29, .ref aw)]) [1, 4, 5] rfl rfl (M1 := [(ak, 167, n_ak, ca 1, fk), (aw, 157, n_aw, ca 1, fw)]) [0, 1] rfl rfl (I1 := []) [] rfl rfl).more hb_225)
                  clear hh_19 ht_22 hvm_22 hz_22 hk_22 hS_22 hb_221 hb_222 hb_223 hb_224 hb_225
                  try simp only at hr_23
                  obtain ⟨hr_23_0, hr_23_1, hr_23_2, hr_23_3, hr_23_4, hr_23_5⟩ := hr_23
                  refine lv_istore (lv' := [(4, .int r_23), (0, .ref r0), (1, .int a1), (2, .int r_6), (3, .int w0_9)]) hx hb dX13_readOne_257 hl (by decide) rfl (fun ls hl => ?_)
                  refine lv_aload_n hx hb dX13_readOne_259 rfl (lv_at hl 1 rfl) ?_
                  obtain ⟨v_24, hv_24, hh_25⟩ := hh_22.pin (C := RX13) (T := TX13) (N := 50) hB15 rfl (by decide) hg_r0 (i := 33) (by decide) rfl
                  clear hh_22
                  obtain ⟨wrong_26, rfl, hzwrong_26⟩ := hv_24
                  have hzwrong_26' := jb_01 hzwrong_26
                  refine j7_read hx hb hown hK (C := RX13) (T := TX13) (N := 50) rfl hly_15_33 hlk_181 (hh_25.at 0 rfl) dX13_readOne_260 ?_
                  refine lv_if_ne (tgt := 275) hx hb dX13_readOne_263 (by decide) (fun c_27 => ?_) (fun c_27 => ?_)
                  · skip
                    have c_27' : wrong_26.toInt ≠ 0 := jb_ne (rfl) ((by decide)) c_27
                    refine lv_iload hx hb dX13_readOne_275 (lv_at hl 0 rfl) ?_
                    rw [hQ]
                    exact W.iret (v := r_23) hx hb hr (fun t ht hW => ⟨⟨r_23, (qa_22, qn_22), rfl, by first | omega | (refine ⟨?_, ?_, ?_, ?_, ?_, ?_⟩ <;> (first | omega | rfl | assumption | decide | exact Or.inl rfl | exact Or.inr rfl | (simp only; omega))), hh_25.rt (M1 := [(r0, 15, 32, .int qa_22), (r0, 15, 5, .int qn_22)]) [1, 2] rfl ht⟩, by rw [ht]; try exact hh_25.1.1, fun q h9 hq => by rw [ht]; try exact hh_25.1.2.1 q h9 hq⟩) hh_25.1.2.2 dX13_readOne_277
                  · skip
                    have c_27' : wrong_26.toInt = 0 := jb_ne_n (rfl) ((by decide)) c_27
                    refine lv_aload_n hx hb dX13_readOne_266 rfl (lv_at hl 1 rfl) ?_
                    refine lv_bipush (v := 61) hx hb dX13_readOne_267 (by decide) ?_
                    refine va_calli (A0 := jA base) (H0 := s.heap) (va_runV (As := [.int 61]) (rest := []) ⟨hx, hb, hml, hown, hts⟩ (uX13_is l dC dI ca base B hB hAp hB15 hB157 hB167 G0 H_22 r0 61 pk qa_22 ak n_ak aw n_aw fk fw) (cwV 1 hts (jgV (jWr_62 _ (List.mem_of_getElem? (i := 13) rfl)) (jWr_62 _ (List.mem_of_getElem? (i := 14) rfl)) (jWr_62 _ (List.mem_of_getElem? (i := 15) rfl)) (jWr_12 _ (List.mem_of_getElem? (i := 12) rfl)) (jWr_62 _ (List.mem_of_getElem? (i := 16) rfl))) rfl rfl rfl (by decide +kernel) ⟨by rw [← hR]; show (0) + 1 ≤ ef + 4 * d + 14; omega, by rw [← hR]; show 8 + (2 + 11) + (0) ≤ 30 * ef + 120 * d + 600; omega⟩) ⟨fun a U g mk q => by obtain ⟨q0, q1, q2, qK, q10, q11, q12, q13, q14, q15⟩ := q; exact ⟨q0, q1, q2, jG.calling g mk a qK, q10, q11, q12, q13, q14, q15⟩, hh_25.recv (C := RX13) (T := TX13) (N := 50) hB15 rfl (by decide) hg_r0 hK, fun U hU hW => ⟨rfl, hU, hh_25.2.1, hG.step hW hU hh_25.1, hg_r0, hg_ak, hg_aw, (hh_25.2.2.1.sub (L1 := [(r0, 15, 30, .int pk), (r0, 15, 32, .int qa_22), (r0, 15, 28, .ref ak), (r0, 15, 29, .ref aw)]) [3, 1, 4, 5] rfl), (hh_25.2.2.2.2.2.2.2.1.sub (L1 := [(ak, 167, n_ak, ca 1, fk), (aw, 157, n_aw, ca 1, fw)]) [0, 1] rfl), by first | omega | (refine ⟨?_, ?_, ?_, ?_, ?_, ?_⟩ <;> (first | omega | rfl | assumption | decide | exact Or.inl rfl | exact Or.inr rfl | (simp only; omega)))⟩⟩ rfl rfl hl.1 rfl (lv_room (Nat.le_of_ble_eq_true rfl)) dX13_readOne_269 ⟨Nat.zero_le _, Nat.zero_le _⟩) hh_25.1 (fun q _ h => h) (fun q h => h) (fun r_29 u_28 t_28 H_28 locs_28 ht_28 hvm_28 hr_29 hb_28 hz_28 hk_28 hS_28 => ?_)
                    rw [ht_28] at hb_28
                    obtain ⟨hb_281, hb_282, hb_283, hb_284, hb_285⟩ := hb_28
                    have hh_28 : jSt (dC, dI) B base G0 G0 EX13_readOne s.heap 0 0 [(r0, 15, 33, .int wrong_26), (r0, 15, 32, .int qa_22), (r0, 15, 5, .int qn_22), (r0, 15, 30, .int pk), (r0, 15, 28, .ref ak), (r0, 15, 29, .ref aw)] [(ak, 167, n_ak, ca 1, fk), (aw, 157, n_aw, ca 1, fw)] [] H_28 locs_28 := ((hh_25.call hb_281 hb_282 hb_283 hb_284 hS_28 rfl (L1 := [(r0, 15, 33, .int wrong_26), (r0, 15, 32, .int qa_22), (r0, 15, 5, .int qn_22), (r0, 15, 30, .int pk), (r0, 15, 28, .ref ak), (r0, 15, 29, .ref aw)]) [0, 1, 2, 3, 4, 5] rfl rfl (M1 := [(ak, 167, n_ak, ca 1, fk), (aw, 157, n_aw, ca 1, fw)]) [0, 1] rfl rfl (I1 := []) [] rfl rfl).more hb_285)
                    clear hh_25 ht_28 hvm_28 hz_28 hk_28 hS_28 hb_281 hb_282 hb_283 hb_284 hb_285
                    obtain ⟨hr_29b, hr_29p⟩ := hr_29
                    obtain ⟨hr_29p_0, hr_29p_1⟩ := hr_29p
                    have hr_29' := jb_01 hr_29b
                    refine lv_if_ne (tgt := 278) hx hb dX13_readOne_272 (by decide) (fun c_30 => ?_) (fun c_30 => ?_)
                    · skip
                      have c_30' : r_29.toInt ≠ 0 := jb_ne (rfl) ((by decide)) c_30
                      refine lv_aload_n hx hb dX13_readOne_278 rfl (lv_at hl 1 rfl) ?_
                      refine lv_dup hx hb dX13_readOne_279 rfl ?_
                      refine j7_read hx hb hown hK (C := RX13) (T := TX13) (N := 50) rfl hly_15_32 hlk_171 (hh_28.at 1 rfl) dX13_readOne_280 ?_
                      refine lv_iconst (v := 1) hx hb dX13_readOne_283 (by decide) ?_
                      refine lv_iadd hx hb dX13_readOne_284 ?_
                      refine lv_topi (fun z_31 ez_31 => ?_)
                      have hz_31 : z_31.toInt = qa_22.toInt + 1 := by rw [ez_31]; exact jb_iadd2 (rfl) ((by decide)) (by omega)
                      refine j7_put hx hb hown hK hh_28 hB hAp hB15 (C := RX13) (T := TX13) (N := 50) rfl (by decide) hg_r0 (i := 32) (by decide) hly_15_32 rfl hlk_171 rfl (ty := .int) (v := .int z_31) (by decide +kernel) rfl rfl (⟨_, rfl, by omega, by omega⟩) rfl (L1 := [(r0, 15, 33, .int wrong_26), (r0, 15, 5, .int qn_22), (r0, 15, 30, .int pk), (r0, 15, 28, .ref ak), (r0, 15, 29, .ref aw)]) [0, 2, 3, 4, 5] rfl rfl rfl dX13_readOne_285 (fun H_32 locs_32 hh_32 => ?_)
                      clear hh_28
                      refine lv_aload_n hx hb dX13_readOne_288 rfl (lv_at hl 1 rfl) ?_
                      refine lv_bipush (v := 6) hx hb dX13_readOne_289 (by decide) ?_
                      refine lv_iconst (v := 0) hx hb dX13_readOne_291 (by decide) ?_
                      refine lv_iload hx hb dX13_readOne_292 (lv_at hl 0 rfl) ?_
                      refine lv_aload_n hx hb dX13_readOne_294 rfl (lv_at hl 1 rfl) ?_
                      refine lv_iload_n hx hb dX13_readOne_295 rfl (lv_at hl 2 rfl) ?_
                      refine va_calli (A0 := jA base) (H0 := s.heap) (va_runV (As := [.int a1]) (rest := [.int r_23, .int 0, .int 6, .ref r0]) ⟨hx, hb, hml, hown, hts⟩ (aX13_readTerm l dC dI ca base B hB hAp hB15 hB150 hB151 hB152 hB153 hB154 hB155 hB156 hB157 hB166 hB167 d G0 H_32 r0 a1 pk z_31 qn_22) (cwV 1 hts (jgV (jWr_61 _ (List.mem_of_getElem? (i := 17) rfl)) (jWr_61 _ (List.mem_of_getElem? (i := 18) rfl)) (jWr_61 _ (List.mem_of_getElem? (i := 19) rfl)) (jWr_12 _ (List.mem_of_getElem? (i := 12) rfl)) (jWr_61 _ (List.mem_of_getElem? (i := 20) rfl))) rfl rfl rfl (by decide +kernel) ⟨by rw [← hR]; show (d + 8) + 1 ≤ ef + 4 * d + 14; omega, by rw [← hR]; show 8 + (7 + 11) + (60 * d + 400) ≤ 30 * ef + 120 * d + 600; omega⟩) ⟨fun a U g mk q => by obtain ⟨q0, q1, q2, qK, q10, q11, q12⟩ := q; exact ⟨q0, q1, q2, jG.calling g mk a qK, q10, q11, q12⟩, hh_32.recv (C := RX13) (T := TX13) (N := 50) hB15 rfl (by decide) hg_r0 hK, fun U hU hW => ⟨rfl, hU, hh_32.2.1, hG.step hW hU hh_32.1, hg_r0, (hh_32.2.2.1.sub (L1 := [(r0, 15, 30, .int pk), (r0, 15, 32, .int z_31), (r0, 15, 5, .int qn_22)]) [3, 0, 2] rfl), by first | omega | (refine ⟨?_, ?_, ?_, ?_, ?_, ?_, ?_⟩ <;> (first | omega | rfl | assumption | decide | exact Or.inl rfl | exact Or.inr rfl | (simp only; omega)))⟩⟩ rfl rfl hl.1 rfl (lv_room (Nat.le_of_ble_eq_true rfl)) dX13_readOne_296 ⟨Nat.zero_le _, Nat.zero_le _⟩) hh_32.1 (fun q _ h => h) (fun q h => h) (fun r_34 u_33 t_33 H_33 locs_33 ht_33 hvm_33 hr_34 hb_33 hz_33 hk_33 hS_33 => ?_)
                      obtain ⟨qa_33, qn_33⟩ := u_33
                      rw [ht_33] at hb_33
                      obtain ⟨hb_331, hb_332, hb_333, hb_334, hb_335⟩ := hb_33
                      have hh_33 : jSt (dC, dI) B base G0 G0 EX13_readOne s.heap 0 0 [(r0, 15, 32, .int qa_33), (r0, 15, 5, .int qn_33), (r0, 15, 30, .int pk), (r0, 15, 28, .ref ak), (r0, 15, 29, .ref aw)] [(ak, 167, n_ak, ca 1, fk), (aw, 157, n_aw, ca 1, fw)] [] H_33 locs_33 := ((hh_32.call hb_331 hb_332 hb_333 hb_334 hS_33 rfl (L1 := [(r0, 15, 30, .int pk), (r0, 15, 28, .ref ak), (r0, 15, 29, .ref aw)]) [3, 4, 5] rfl rfl (M1 := [(ak, 167, n_ak, ca 1, fk), (aw, 157, n_aw, ca 1, fw)]) [0, 1] rfl rfl (I1 := []) [] rfl rfl).more hb_335)
                      clear hh_32 ht_33 hvm_33 hz_33 hk_33 hS_33 hb_331 hb_332 hb_333 hb_334 hb_335
                      try simp only at hr_34
                      obtain ⟨hr_34_0, hr_34_1, hr_34_2, hr_34_3, hr_34_4, hr_34_5⟩ := hr_34
                      refine lv_iconst (v := 0) hx hb dX13_readOne_299 (by decide) ?_
                      refine va_calli (A0 := jA base) (H0 := s.heap) (va_runV (As := [.int 6, .int 0, .int r_23, .int r_34, .int 0]) (rest := []) ⟨hx, hb, hml, hown, hts⟩ (uX13_node l dC dI ca base B hB hAp hB15 hB150 hB151 hB152 hB153 hB154 G0 H_33 r0 6 0 r_23 r_34 0 qn_33) (cwV 5 hts (jgV (jWr_62 _ (List.mem_of_getElem? (i := 9) rfl)) (jWr_62 _ (List.mem_of_getElem? (i := 10) rfl)) (jWr_62 _ (List.mem_of_getElem? (i := 11) rfl)) (jWr_12 _ (List.mem_of_getElem? (i := 12) rfl)) (jWr_62 _ (List.mem_of_getElem? (i := 12) rfl))) rfl rfl rfl (by decide +kernel) ⟨by rw [← hR]; show (0) + 1 ≤ ef + 4 * d + 14; omega, by rw [← hR]; show 8 + (6 + 11) + (0) ≤ 30 * ef + 120 * d + 600; omega⟩) ⟨fun a U g mk q => by obtain ⟨q0, q1, q2, qK, q10, q11, q12⟩ := q; exact ⟨q0, q1, q2, jG.calling g mk a qK, q10, q11, q12⟩, hh_33.recv (C := RX13) (T := TX13) (N := 50) hB15 rfl (by decide) hg_r0 hK, fun U hU hW => ⟨rfl, hU, hh_33.2.1, hG.step hW hU hh_33.1, hg_r0, (hh_33.2.2.1.sub (L1 := [(r0, 15, 5, .int qn_33)]) [1] rfl), by first | omega | (refine ⟨?_, ?_⟩ <;> (first | omega | rfl | assumption | decide | exact Or.inl rfl | exact Or.inr rfl | (simp only; omega)))⟩⟩ rfl rfl hl.1 rfl (lv_room (Nat.le_of_ble_eq_true rfl)) dX13_readOne_300 ⟨Nat.zero_le _, Nat.zero_le _⟩) hh_33.1 (fun q _ h => h) (fun q h => h) (fun r_36 u_35 t_35 H_35 locs_35 ht_35 hvm_35 hr_36 hb_35 hz_35 hk_35 hS_35 => ?_)
                      obtain ⟨qn_35, rfl⟩ : ∃ z, z = u_35 := ⟨_, rfl⟩
                      rw [ht_35] at hb_35
                      obtain ⟨hb_351, hb_352, hb_353, hb_354, hb_355⟩ := hb_35
                      have hh_35 : jSt (dC, dI) B base G0 G0 EX13_readOne s.heap 0 0 [(r0, 15, 5, .int qn_35), (r0, 15, 32, .int qa_33), (r0, 15, 30, .int pk), (r0, 15, 28, .ref ak), (r0, 15, 29, .ref aw)] [(ak, 167, n_ak, ca 1, fk), (aw, 157, n_aw, ca 1, fw)] [] H_35 locs_35 := ((hh_33.call hb_351 hb_352 hb_353 hb_354 hS_35 rfl (L1 := [(r0, 15, 32, .int qa_33), (r0, 15, 30, .int pk), (r0, 15, 28, .ref ak), (r0, 15, 29, .ref aw)]) [0, 2, 3, 4] rfl rfl (M1 := [(ak, 167, n_ak, ca 1, fk), (aw, 157, n_aw, ca 1, fw)]) [0, 1] rfl rfl (I1 := []) [] rfl rfl).more hb_355)
                      clear hh_33 ht_35 hvm_35 hz_35 hk_35 hS_35 hb_351 hb_352 hb_353 hb_354 hb_355
                      obtain ⟨hr_36_0, hr_36_1⟩ := hr_36
                      rw [hQ]
                      exact W.iret (v := r_36) hx hb hr (fun t ht hW => ⟨⟨r_36, (qa_33, qn_35), rfl, by first | omega | (refine ⟨?_, ?_, ?_, ?_, ?_, ?_⟩ <;> (first | omega | rfl | assumption | decide | exact Or.inl rfl | exact Or.inr rfl | (simp only; omega))), hh_35.rt (M1 := [(r0, 15, 32, .int qa_33), (r0, 15, 5, .int qn_35)]) [1, 0] rfl ht⟩, by rw [ht]; try exact hh_35.1.1, fun q h9 hq => by rw [ht]; try exact hh_35.1.2.1 q h9 hq⟩) hh_35.1.2.2 dX13_readOne_303
                    · skip
                      have c_30' : r_29.toInt = 0 := jb_ne_n (rfl) ((by decide)) c_30
                      refine lv_iload hx hb dX13_readOne_275 (lv_at hl 0 rfl) ?_
                      rw [hQ]
                      exact W.iret (v := r_23) hx hb hr (fun t ht hW => ⟨⟨r_23, (qa_22, qn_22), rfl, by first | omega | (refine ⟨?_, ?_, ?_, ?_, ?_, ?_⟩ <;> (first | omega | rfl | assumption | decide | exact Or.inl rfl | exact Or.inr rfl | (simp only; omega))), hh_28.rt (M1 := [(r0, 15, 32, .int qa_22), (r0, 15, 5, .int qn_22)]) [1, 2] rfl ht⟩, by rw [ht]; try exact hh_28.1.1, fun q h9 hq => by rw [ht]; try exact hh_28.1.2.1 q h9 hq⟩) hh_28.1.2.2 dX13_readOne_277
                · skip
                  have c_21' : r_20.toInt ≠ 0 := jb_eq_n (rfl) ((by decide)) c_21
                  first | (have hr_20pq := hr_20p.resolve_left (by omega); clear hr_20p) | (have hr_20pq := hr_20p.resolve_right (by omega); clear hr_20p) | try clear hr_20p
                  refine lv_aload_n hx hb dX13_readOne_232 rfl (lv_at hl 0 rfl) ?_
                  refine lv_dup hx hb dX13_readOne_233 rfl ?_
                  refine j7_read hx hb hown hK (C := RX13) (T := TX13) (N := 50) rfl hly_15_32 hlk_171 (hh_19.at 2 rfl) dX13_readOne_234 ?_
                  refine lv_iconst (v := 1) hx hb dX13_readOne_237 (by decide) ?_
                  refine lv_iadd hx hb dX13_readOne_238 ?_
                  refine lv_topi (fun z_37 ez_37 => ?_)
                  have hz_37 : z_37.toInt = pa.toInt + 1 := by rw [ez_37]; exact jb_iadd2 (rfl) ((by decide)) (by omega)
                  refine j7_put hx hb hown hK hh_19 hB hAp hB15 (C := RX13) (T := TX13) (N := 50) rfl (by decide) hg_r0 (i := 32) (by decide) hly_15_32 rfl hlk_171 rfl (ty := .int) (v := .int z_37) (by decide +kernel) rfl rfl (⟨_, rfl, by omega, by omega⟩) rfl (L1 := [(r0, 15, 33, .int ww_10), (r0, 15, 30, .int pk), (r0, 15, 5, .int pn), (r0, 15, 28, .ref ak), (r0, 15, 29, .ref aw)]) [0, 1, 3, 4, 5] rfl rfl rfl dX13_readOne_239 (fun H_38 locs_38 hh_38 => ?_)
                  clear hh_19
                  refine lv_aload_n hx hb dX13_readOne_242 rfl (lv_at hl 0 rfl) ?_
                  refine lv_iconst (v := 3) hx hb dX13_readOne_243 (by decide) ?_
                  refine lv_iconst (v := 0) hx hb dX13_readOne_244 (by decide) ?_
                  refine lv_iconst (v := 0) hx hb dX13_readOne_245 (by decide) ?_
                  refine lv_iconst (v := 0) hx hb dX13_readOne_246 (by decide) ?_
                  refine lv_iconst (v := 0) hx hb dX13_readOne_247 (by decide) ?_
                  refine va_calli (A0 := jA base) (H0 := s.heap) (va_runV (As := [.int 3, .int 0, .int 0, .int 0, .int 0]) (rest := []) ⟨hx, hb, hml, hown, hts⟩ (uX13_node l dC dI ca base B hB hAp hB15 hB150 hB151 hB152 hB153 hB154 G0 H_38 r0 3 0 0 0 0 pn) (cwV 5 hts (jgV (jWr_62 _ (List.mem_of_getElem? (i := 9) rfl)) (jWr_62 _ (List.mem_of_getElem? (i := 10) rfl)) (jWr_62 _ (List.mem_of_getElem? (i := 11) rfl)) (jWr_12 _ (List.mem_of_getElem? (i := 12) rfl)) (jWr_62 _ (List.mem_of_getElem? (i := 12) rfl))) rfl rfl rfl (by decide +kernel) ⟨by rw [← hR]; show (0) + 1 ≤ ef + 4 * d + 14; omega, by rw [← hR]; show 8 + (6 + 11) + (0) ≤ 30 * ef + 120 * d + 600; omega⟩) ⟨fun a U g mk q => by obtain ⟨q0, q1, q2, qK, q10, q11, q12⟩ := q; exact ⟨q0, q1, q2, jG.calling g mk a qK, q10, q11, q12⟩, hh_38.recv (C := RX13) (T := TX13) (N := 50) hB15 rfl (by decide) hg_r0 hK, fun U hU hW => ⟨rfl, hU, hh_38.2.1, hG.step hW hU hh_38.1, hg_r0, (hh_38.2.2.1.sub (L1 := [(r0, 15, 5, .int pn)]) [3] rfl), by first | omega | (refine ⟨?_, ?_⟩ <;> (first | omega | rfl | assumption | decide | exact Or.inl rfl | exact Or.inr rfl | (simp only; omega)))⟩⟩ rfl rfl hl.1 rfl (lv_room (Nat.le_of_ble_eq_true rfl)) dX13_readOne_248 ⟨Nat.zero_le _, Nat.zero_le _⟩) hh_38.1 (fun q _ h => h) (fun q h => h) (fun r_40 u_39 t_39 H_39 locs_39 ht_39 hvm_39 hr_40 hb_39 hz_39 hk_39 hS_39 => ?_)
                  obtain ⟨qn_39, rfl⟩ : ∃ z, z = u_39 := ⟨_, rfl⟩
                  rw [ht_39] at hb_39
                  obtain ⟨hb_391, hb_392, hb_393, hb_394, hb_395⟩ := hb_39
                  have hh_39 : jSt (dC, dI) B base G0 G0 EX13_readOne s.heap 0 0 [(r0, 15, 5, .int qn_39), (r0, 15, 32, .int z_37), (r0, 15, 33, .int ww_10), (r0, 15, 30, .int pk), (r0, 15, 28, .ref ak), (r0, 15, 29, .ref aw)] [(ak, 167, n_ak, ca 1, fk), (aw, 157, n_aw, ca 1, fw)] [] H_39 locs_39 := ((hh_38.call hb_391 hb_392 hb_393 hb_394 hS_39 rfl (L1 := [(r0, 15, 32, .int z_37), (r0, 15, 33, .int ww_10), (r0, 15, 30, .int pk), (r0, 15, 28, .ref ak), (r0, 15, 29, .ref aw)]) [0, 1, 2, 4, 5] rfl rfl (M1 := [(ak, 167, n_ak, ca 1, fk), (aw, 157, n_aw, ca 1, fw)]) [0, 1] rfl rfl (I1 := []) [] rfl rfl).more hb_395)
                  clear hh_38 ht_39 hvm_39 hz_39 hk_39 hS_39 hb_391 hb_392 hb_393 hb_394 hb_395
                  obtain ⟨hr_40_0, hr_40_1⟩ := hr_40
                  rw [hQ]
                  exact W.iret (v := r_40) hx hb hr (fun t ht hW => ⟨⟨r_40, (z_37, qn_39), rfl, by first | omega | (refine ⟨?_, ?_, ?_, ?_, ?_, ?_⟩ <;> (first | omega | rfl | assumption | decide | exact Or.inl rfl | exact Or.inr rfl | (simp only; omega))), hh_39.rt (M1 := [(r0, 15, 32, .int z_37), (r0, 15, 5, .int qn_39)]) [1, 0] rfl ht⟩, by rw [ht]; try exact hh_39.1.1, fun q h9 hq => by rw [ht]; try exact hh_39.1.2.1 q h9 hq⟩) hh_39.1.2.2 dX13_readOne_251
              · skip
                have c_18' : w0_9.toInt ≠ 0 := jb_eq_n (rfl) ((by decide)) c_18
                refine lv_aload_n hx hb dX13_readOne_165 rfl (lv_at hl 0 rfl) ?_
                refine lv_dup hx hb dX13_readOne_166 rfl ?_
                refine j7_read hx hb hown hK (C := RX13) (T := TX13) (N := 50) rfl hly_15_32 hlk_171 (hh_15.at 2 rfl) dX13_readOne_167 ?_
                refine lv_iconst (v := 1) hx hb dX13_readOne_170 (by decide) ?_
                refine lv_iadd hx hb dX13_readOne_171 ?_
                refine lv_topi (fun z_41 ez_41 => ?_)
                have hz_41 : z_41.toInt = pa.toInt + 1 := by rw [ez_41]; exact jb_iadd2 (rfl) ((by decide)) (by omega)
                refine j7_put hx hb hown hK hh_15 hB hAp hB15 (C := RX13) (T := TX13) (N := 50) rfl (by decide) hg_r0 (i := 32) (by decide) hly_15_32 rfl hlk_171 rfl (ty := .int) (v := .int z_41) (by decide +kernel) rfl rfl (⟨_, rfl, by omega, by omega⟩) rfl (L1 := [(r0, 15, 33, .int ww_10), (r0, 15, 30, .int pk), (r0, 15, 5, .int pn), (r0, 15, 28, .ref ak), (r0, 15, 29, .ref aw)]) [0, 1, 3, 4, 5] rfl rfl rfl dX13_readOne_172 (fun H_42 locs_42 hh_42 => ?_)
                clear hh_15
                refine lv_aload_n hx hb dX13_readOne_175 rfl (lv_at hl 0 rfl) ?_
                refine va_calli (A0 := jA base) (H0 := s.heap) (va_runV (As := []) (rest := []) ⟨hx, hb, hml, hown, hts⟩ (uX13_readName l dC dI ca base B hB hAp hB15 hB155 hB156 hB157 hB166 hB167 G0 H_42 r0 pk z_41) (cwV 0 hts (jgV (jWr_61 _ (List.mem_of_getElem? (i := 21) rfl)) (jWr_61 _ (List.mem_of_getElem? (i := 22) rfl)) (jWr_61 _ (List.mem_of_getElem? (i := 23) rfl)) (jWr_12 _ (List.mem_of_getElem? (i := 12) rfl)) (jWr_62 _ (List.mem_of_getElem? (i := 0) rfl))) rfl rfl rfl (by decide +kernel) ⟨by rw [← hR]; show (6) + 1 ≤ ef + 4 * d + 14; omega, by rw [← hR]; show 8 + (1 + 11) + (186) ≤ 30 * ef + 120 * d + 600; omega⟩) ⟨fun a U g mk q => by obtain ⟨q0, q1, q2, qK, q10, q11, q12⟩ := q; exact ⟨q0, q1, q2, jG.calling g mk a qK, q10, q11, q12⟩, hh_42.recv (C := RX13) (T := TX13) (N := 50) hB15 rfl (by decide) hg_r0 hK, fun U hU hW => ⟨rfl, hU, hh_42.2.1, hG.step hW hU hh_42.1, hg_r0, (hh_42.2.2.1.sub (L1 := [(r0, 15, 30, .int pk), (r0, 15, 32, .int z_41)]) [2, 0] rfl), by first | omega | (refine ⟨?_, ?_, ?_, ?_⟩ <;> (first | omega | rfl | assumption | decide | exact Or.inl rfl | exact Or.inr rfl | (simp only; omega)))⟩⟩ rfl rfl hl.1 rfl (lv_room (Nat.le_of_ble_eq_true rfl)) dX13_readOne_176 ⟨Nat.zero_le _, Nat.zero_le _⟩) hh_42.1 (fun q _ h => h) (fun q h => h) (fun r_44 u_43 t_43 H_43 locs_43 ht_43 hvm_43 hr_44 hb_43 hz_43 hk_43 hS_43 => ?_)
                obtain ⟨qa_43, rfl⟩ : ∃ z, z = u_43 := ⟨_, rfl⟩
                rw [ht_43] at hb_43
                obtain ⟨hb_431, hb_432, hb_433, hb_434, hb_435⟩ := hb_43
                have hh_43 : jSt (dC, dI) B base G0 G0 EX13_readOne s.heap 0 0 [(r0, 15, 32, .int qa_43), (r0, 15, 30, .int pk), (r0, 15, 5, .int pn), (r0, 15, 28, .ref ak), (r0, 15, 29, .ref aw)] [(ak, 167, n_ak, ca 1, fk), (aw, 157, n_aw, ca 1, fw)] [] H_43 locs_43 := ((hh_42.call hb_431 hb_432 hb_433 hb_434 hS_43 rfl (L1 := [(r0, 15, 30, .int pk), (r0, 15, 5, .int pn), (r0, 15, 28, .ref ak), (r0, 15, 29, .ref aw)]) [2, 3, 4, 5] rfl rfl (M1 := [(ak, 167, n_ak, ca 1, fk), (aw, 157, n_aw, ca 1, fw)]) [0, 1] rfl rfl (I1 := []) [] rfl rfl).more hb_435)
                clear hh_42 ht_43 hvm_43 hz_43 hk_43 hS_43 hb_431 hb_432 hb_433 hb_434 hb_435
                obtain ⟨hr_44_0, hr_44_1, hr_44_2, hr_44_3, hr_44_4⟩ := hr_44
                refine lv_istore (lv' := [(4, .int r_44), (0, .ref r0), (1, .int a1), (2, .int r_6), (3, .int w0_9)]) hx hb dX13_readOne_179 hl (by decide) rfl (fun ls hl => ?_)
                refine lv_aload_n hx hb dX13_readOne_181 rfl (lv_at hl 1 rfl) ?_
                refine lv_bipush (v := 44) hx hb dX13_readOne_182 (by decide) ?_
                refine va_callv (A0 := jA base) (H0 := s.heap) (va_runV (As := [.int 44]) (rest := []) ⟨hx, hb, hml, hown, hts⟩ (uX13_expect l dC dI ca base B hB hAp hB15 hB157 hB167 G0 H_43 r0 44 pk qa_43) (cwV 1 hts (jgV (jWr_62 _ (List.mem_of_getElem? (i := 17) rfl)) (jWr_62 _ (List.mem_of_getElem? (i := 18) rfl)) (jWr_62 _ (List.mem_of_getElem? (i := 19) rfl)) (jWr_12 _ (List.mem_of_getElem? (i := 12) rfl)) (jWr_62 _ (List.mem_of_getElem? (i := 20) rfl))) rfl rfl rfl (by decide +kernel) ⟨by rw [← hR]; show (1) + 1 ≤ ef + 4 * d + 14; omega, by rw [← hR]; show 8 + (2 + 11) + (21) ≤ 30 * ef + 120 * d + 600; omega⟩) ⟨fun a U g mk q => by obtain ⟨q0, q1, q2, qK, q10, q11, q12⟩ := q; exact ⟨q0, q1, q2, jG.calling g mk a qK, q10, q11, q12⟩, hh_43.recv (C := RX13) (T := TX13) (N := 50) hB15 rfl (by decide) hg_r0 hK, fun U hU hW => ⟨rfl, hU, hh_43.2.1, hG.step hW hU hh_43.1, hg_r0, (hh_43.2.2.1.sub (L1 := [(r0, 15, 30, .int pk), (r0, 15, 32, .int qa_43)]) [1, 0] rfl), by first | omega | (refine ⟨?_, ?_, ?_, ?_⟩ <;> (first | omega | rfl | assumption | decide | exact Or.inl rfl | exact Or.inr rfl | (simp only; omega)))⟩⟩ rfl rfl hl.1 rfl (lv_room (Nat.le_of_ble_eq_true rfl)) dX13_readOne_184 ⟨Nat.zero_le _, Nat.zero_le _⟩) hh_43.1 (fun q _ h => h) (fun q h => h) (fun u_45 t_45 H_45 locs_45 ht_45 hvm_45 hr_46 hb_45 hz_45 hk_45 hS_45 => ?_)
                obtain ⟨qa_45, rfl⟩ : ∃ z, z = u_45 := ⟨_, rfl⟩
                rw [ht_45] at hb_45
                obtain ⟨hb_451, hb_452, hb_453, hb_454, hb_455⟩ := hb_45
                have hh_45 : jSt (dC, dI) B base G0 G0 EX13_readOne s.heap 0 0 [(r0, 15, 32, .int qa_45), (r0, 15, 30, .int pk), (r0, 15, 5, .int pn), (r0, 15, 28, .ref ak), (r0, 15, 29, .ref aw)] [(ak, 167, n_ak, ca 1, fk), (aw, 157, n_aw, ca 1, fw)] [] H_45 locs_45 := ((hh_43.call hb_451 hb_452 hb_453 hb_454 hS_45 rfl (L1 := [(r0, 15, 30, .int pk), (r0, 15, 5, .int pn), (r0, 15, 28, .ref ak), (r0, 15, 29, .ref aw)]) [1, 2, 3, 4] rfl rfl (M1 := [(ak, 167, n_ak, ca 1, fk), (aw, 157, n_aw, ca 1, fw)]) [0, 1] rfl rfl (I1 := []) [] rfl rfl).more hb_455)
                clear hh_43 ht_45 hvm_45 hz_45 hk_45 hS_45 hb_451 hb_452 hb_453 hb_454 hb_455
                obtain ⟨hr_46_0, hr_46_1, hr_46_2⟩ := hr_46
                refine lv_aload_n hx hb dX13_readOne_187 rfl (lv_at hl 1 rfl) ?_
                obtain ⟨v_47, hv_47, hh_48⟩ := hh_45.pin (C := RX13) (T := TX13) (N := 50) hB15 rfl (by decide) hg_r0 (i := 33) (by decide) rfl
                clear hh_45
                obtain ⟨wrong_49, rfl, hzwrong_49⟩ := hv_47
                have hzwrong_49' := jb_01 hzwrong_49
                refine j7_read hx hb hown hK (C := RX13) (T := TX13) (N := 50) rfl hly_15_33 hlk_181 (hh_48.at 0 rfl) dX13_readOne_188 ?_
                refine lv_if_eq (tgt := 198) hx hb dX13_readOne_191 (by decide) (fun c_50 => ?_) (fun c_50 => ?_)
                · skip
                  have c_50' : wrong_49.toInt = 0 := jb_eq (rfl) ((by decide)) c_50
                  refine lv_aload_n hx hb dX13_readOne_198 rfl (lv_at hl 1 rfl) ?_
                  refine lv_iload_n hx hb dX13_readOne_199 rfl (lv_at hl 3 rfl) ?_
                  have C208 : ∀ (w0_51 : Int32) (H_51 : Heap) (locs_51 : List Loc), jSt (dC, dI) B base G0 G0 EX13_readOne s.heap 0 0 [(r0, 15, 33, .int wrong_49), (r0, 15, 32, .int qa_45), (r0, 15, 30, .int pk), (r0, 15, 5, .int pn), (r0, 15, 28, .ref ak), (r0, 15, 29, .ref aw)] [(ak, 167, n_ak, ca 1, fk), (aw, 157, n_aw, ca 1, fw)] [] H_51 locs_51 → (True) → ∀ ls : Array Slot, lv_has ls 5 [(0, .ref r0), (1, .int a1), (2, .int r_6), (3, .int w0_9), (4, .int r_44)] → W p l e R s m ([.ref r0, .int a1] : List Value).toArray below meth c H_51 locs_51 0 0 Q (F0 m 208 ls [.int w0_51, .ref r0]) := by
                    intro w0_51 H_51 locs_51 hh_51  hi_51 ls hl
                    refine lv_iload hx hb dX13_readOne_208 (lv_at hl 4 rfl) ?_
                    refine lv_aload_n hx hb dX13_readOne_210 rfl (lv_at hl 0 rfl) ?_
                    refine lv_iload_n hx hb dX13_readOne_211 rfl (lv_at hl 1 rfl) ?_
                    refine lv_iconst (v := 1) hx hb dX13_readOne_212 (by decide) ?_
                    refine lv_iadd hx hb dX13_readOne_213 ?_
                    refine lv_topi (fun z_52 ez_52 => ?_)
                    have hz_52 : z_52.toInt = a1.toInt + 1 := by rw [ez_52]; exact jb_iadd2 (rfl) ((by decide)) (by omega)
                    refine va_calli (A0 := jA base) (H0 := s.heap) (va_runV (As := [.int z_52]) (rest := [.int r_44, .int w0_51, .ref r0]) ⟨hx, hb, hml, hown, hts⟩ (ihI (ef - 1) (d - 1) (by omega) G0 H_51 r0 z_52 pk qa_45 pn ak n_ak aw n_aw fk fw) (cwV 1 hts (jgV (jWr_63 _ (List.mem_of_getElem? (i := 1) rfl)) (jWr_63 _ (List.mem_of_getElem? (i := 2) rfl)) (jWr_63 _ (List.mem_of_getElem? (i := 3) rfl)) (jWr_12 _ (List.mem_of_getElem? (i := 12) rfl)) (jWr_63 _ (List.mem_of_getElem? (i := 4) rfl))) rfl rfl rfl (by decide +kernel) ⟨by rw [← hR]; show ((ef - 1) + 4 * (d - 1) + 17) + 1 ≤ ef + 4 * d + 14; omega, by rw [← hR]; show 8 + (3 + 11) + (30 * (ef - 1) + 120 * (d - 1) + 690) ≤ 30 * ef + 120 * d + 600; omega⟩) ⟨fun a U g mk q => by obtain ⟨q0, q1, q2, qK, q10, q11, q12, q13, q14, q15⟩ := q; exact ⟨q0, q1, q2, jG.calling g mk a qK, q10, q11, q12, q13, q14, q15⟩, hh_51.recv (C := RX13) (T := TX13) (N := 50) hB15 rfl (by decide) hg_r0 hK, fun U hU hW => ⟨rfl, hU, hh_51.2.1, hG.step hW hU hh_51.1, hg_r0, hg_ak, hg_aw, (hh_51.2.2.1.sub (L1 := [(r0, 15, 30, .int pk), (r0, 15, 32, .int qa_45), (r0, 15, 5, .int pn), (r0, 15, 28, .ref ak), (r0, 15, 29, .ref aw)]) [2, 1, 3, 4, 5] rfl), (hh_51.2.2.2.2.2.2.2.1.sub (L1 := [(ak, 167, n_ak, ca 1, fk), (aw, 157, n_aw, ca 1, fw)]) [0, 1] rfl), by first | omega | (refine ⟨?_, ?_, ?_, ?_, ?_, ?_, ?_, ?_, ?_, ?_⟩ <;> (first | omega | rfl | assumption | decide | exact Or.inl rfl | exact Or.inr rfl | (simp only; omega)))⟩⟩ rfl rfl hl.1 rfl (lv_room (Nat.le_of_ble_eq_true rfl)) dX13_readOne_214 ⟨Nat.zero_le _, Nat.zero_le _⟩) hh_51.1 (fun q _ h => h) (fun q h => h) (fun r_54 u_53 t_53 H_53 locs_53 ht_53 hvm_53 hr_54 hb_53 hz_53 hk_53 hS_53 => ?_)
                    obtain ⟨qa_53, qn_53⟩ := u_53
                    rw [ht_53] at hb_53
                    obtain ⟨hb_531, hb_532, hb_533, hb_534, hb_535⟩ := hb_53
                    have hh_53 : jSt (dC, dI) B base G0 G0 EX13_readOne s.heap 0 0 [(r0, 15, 32, .int qa_53), (r0, 15, 5, .int qn_53), (r0, 15, 30, .int pk), (r0, 15, 28, .ref ak), (r0, 15, 29, .ref aw)] [(ak, 167, n_ak, ca 1, fk), (aw, 157, n_aw, ca 1, fw)] [] H_53 locs_53 := ((hh_51.call hb_531 hb_532 hb_533 hb_534 hS_53 rfl (L1 := [(r0, 15, 30, .int pk), (r0, 15, 28, .ref ak), (r0, 15, 29, .ref aw)]) [2, 4, 5] rfl rfl (M1 := [(ak, 167, n_ak, ca 1, fk), (aw, 157, n_aw, ca 1, fw)]) [0, 1] rfl rfl (I1 := []) [] rfl rfl).more hb_535)
                    clear hh_51 ht_53 hvm_53 hz_53 hk_53 hS_53 hb_531 hb_532 hb_533 hb_534 hb_535
                    try simp only at hr_54
                    obtain ⟨hr_54_0, hr_54_1, hr_54_2, hr_54_3, hr_54_4, hr_54_5⟩ := hr_54
                    refine lv_iconst (v := 0) hx hb dX13_readOne_217 (by decide) ?_
                    refine lv_iconst (v := 0) hx hb dX13_readOne_218 (by decide) ?_
                    refine va_calli (A0 := jA base) (H0 := s.heap) (va_runV (As := [.int w0_51, .int r_44, .int r_54, .int 0, .int 0]) (rest := []) ⟨hx, hb, hml, hown, hts⟩ (uX13_node l dC dI ca base B hB hAp hB15 hB150 hB151 hB152 hB153 hB154 G0 H_53 r0 w0_51 r_44 r_54 0 0 qn_53) (cwV 5 hts (jgV (jWr_62 _ (List.mem_of_getElem? (i := 9) rfl)) (jWr_62 _ (List.mem_of_getElem? (i := 10) rfl)) (jWr_62 _ (List.mem_of_getElem? (i := 11) rfl)) (jWr_12 _ (List.mem_of_getElem? (i := 12) rfl)) (jWr_62 _ (List.mem_of_getElem? (i := 12) rfl))) rfl rfl rfl (by decide +kernel) ⟨by rw [← hR]; show (0) + 1 ≤ ef + 4 * d + 14; omega, by rw [← hR]; show 8 + (6 + 11) + (0) ≤ 30 * ef + 120 * d + 600; omega⟩) ⟨fun a U g mk q => by obtain ⟨q0, q1, q2, qK, q10, q11, q12⟩ := q; exact ⟨q0, q1, q2, jG.calling g mk a qK, q10, q11, q12⟩, hh_53.recv (C := RX13) (T := TX13) (N := 50) hB15 rfl (by decide) hg_r0 hK, fun U hU hW => ⟨rfl, hU, hh_53.2.1, hG.step hW hU hh_53.1, hg_r0, (hh_53.2.2.1.sub (L1 := [(r0, 15, 5, .int qn_53)]) [1] rfl), by first | omega | (refine ⟨?_, ?_⟩ <;> (first | omega | rfl | assumption | decide | exact Or.inl rfl | exact Or.inr rfl | (simp only; omega)))⟩⟩ rfl rfl hl.1 rfl (lv_room (Nat.le_of_ble_eq_true rfl)) dX13_readOne_219 ⟨Nat.zero_le _, Nat.zero_le _⟩) hh_53.1 (fun q _ h => h) (fun q h => h) (fun r_56 u_55 t_55 H_55 locs_55 ht_55 hvm_55 hr_56 hb_55 hz_55 hk_55 hS_55 => ?_)
                    obtain ⟨qn_55, rfl⟩ : ∃ z, z = u_55 := ⟨_, rfl⟩
                    rw [ht_55] at hb_55
                    obtain ⟨hb_551, hb_552, hb_553, hb_554, hb_555⟩ := hb_55
                    have hh_55 : jSt (dC, dI) B base G0 G0 EX13_readOne s.heap 0 0 [(r0, 15, 5, .int qn_55), (r0, 15, 32, .int qa_53), (r0, 15, 30, .int pk), (r0, 15, 28, .ref ak), (r0, 15, 29, .ref aw)] [(ak, 167, n_ak, ca 1, fk), (aw, 157, n_aw, ca 1, fw)] [] H_55 locs_55 := ((hh_53.call hb_551 hb_552 hb_553 hb_554 hS_55 rfl (L1 := [(r0, 15, 32, .int qa_53), (r0, 15, 30, .int pk), (r0, 15, 28, .ref ak), (r0, 15, 29, .ref aw)]) [0, 2, 3, 4] rfl rfl (M1 := [(ak, 167, n_ak, ca 1, fk), (aw, 157, n_aw, ca 1, fw)]) [0, 1] rfl rfl (I1 := []) [] rfl rfl).more hb_555)
                    clear hh_53 ht_55 hvm_55 hz_55 hk_55 hS_55 hb_551 hb_552 hb_553 hb_554 hb_555
                    obtain ⟨hr_56_0, hr_56_1⟩ := hr_56
                    rw [hQ]
                    exact W.iret (v := r_56) hx hb hr (fun t ht hW => ⟨⟨r_56, (qa_53, qn_55), rfl, by first | omega | (refine ⟨?_, ?_, ?_, ?_, ?_, ?_⟩ <;> (first | omega | rfl | assumption | decide | exact Or.inl rfl | exact Or.inr rfl | (simp only; omega))), hh_55.rt (M1 := [(r0, 15, 32, .int qa_53), (r0, 15, 5, .int qn_55)]) [1, 0] rfl ht⟩, by rw [ht]; try exact hh_55.1.1, fun q h9 hq => by rw [ht]; try exact hh_55.1.2.1 q h9 hq⟩) hh_55.1.2.2 dX13_readOne_222
                  refine lv_if_eq (tgt := 207) hx hb dX13_readOne_200 (by decide) (fun c_57 => ?_) (fun c_57 => ?_)
                  · skip
                    have c_57' : r_6.toInt = 0 := jb_eq (rfl) ((by decide)) c_57
                    refine lv_iconst (v := 5) hx hb dX13_readOne_207 (by decide) ?_
                    exact C208 5 _ _ hh_48 (trivial) _ (lv_sub hl [1, 2, 3, 4, 0] rfl)
                  · skip
                    have c_57' : r_6.toInt ≠ 0 := jb_eq_n (rfl) ((by decide)) c_57
                    refine lv_iconst (v := 4) hx hb dX13_readOne_203 (by decide) ?_
                    refine lv_goto (tgt := 208) hx hb dX13_readOne_204 (by decide) ?_
                    exact C208 4 _ _ hh_48 (trivial) _ (lv_sub hl [1, 2, 3, 4, 0] rfl)
                · skip
                  have c_50' : wrong_49.toInt ≠ 0 := jb_eq_n (rfl) ((by decide)) c_50
                  refine lv_iconst (v := 0) hx hb dX13_readOne_194 (by decide) ?_
                  refine lv_goto (tgt := 222) hx hb dX13_readOne_195 (by decide) ?_
                  rw [hQ]
                  exact W.iret (v := 0) hx hb hr (fun t ht hW => ⟨⟨0, (qa_45, pn), rfl, by first | omega | (refine ⟨?_, ?_, ?_, ?_, ?_, ?_⟩ <;> (first | omega | rfl | assumption | decide | exact Or.inl rfl | exact Or.inr rfl | (simp only; omega))), hh_48.rt (M1 := [(r0, 15, 32, .int qa_45), (r0, 15, 5, .int pn)]) [1, 3] rfl ht⟩, by rw [ht]; try exact hh_48.1.1, fun q h9 hq => by rw [ht]; try exact hh_48.1.2.1 q h9 hq⟩) hh_48.1.2.2 dX13_readOne_222
            · skip
              have c_17' : r_16.toInt ≠ 0 := jb_eq_n (rfl) ((by decide)) c_17
              refine lv_aload_n hx hb dX13_readOne_133 rfl (lv_at hl 0 rfl) ?_
              refine lv_dup hx hb dX13_readOne_134 rfl ?_
              refine j7_read hx hb hown hK (C := RX13) (T := TX13) (N := 50) rfl hly_15_32 hlk_171 (hh_15.at 2 rfl) dX13_readOne_135 ?_
              refine lv_iconst (v := 1) hx hb dX13_readOne_138 (by decide) ?_
              refine lv_iadd hx hb dX13_readOne_139 ?_
              refine lv_topi (fun z_58 ez_58 => ?_)
              have hz_58 : z_58.toInt = pa.toInt + 1 := by rw [ez_58]; exact jb_iadd2 (rfl) ((by decide)) (by omega)
              refine j7_put hx hb hown hK hh_15 hB hAp hB15 (C := RX13) (T := TX13) (N := 50) rfl (by decide) hg_r0 (i := 32) (by decide) hly_15_32 rfl hlk_171 rfl (ty := .int) (v := .int z_58) (by decide +kernel) rfl rfl (⟨_, rfl, by omega, by omega⟩) rfl (L1 := [(r0, 15, 33, .int ww_10), (r0, 15, 30, .int pk), (r0, 15, 5, .int pn), (r0, 15, 28, .ref ak), (r0, 15, 29, .ref aw)]) [0, 1, 3, 4, 5] rfl rfl rfl dX13_readOne_140 (fun H_59 locs_59 hh_59 => ?_)
              clear hh_15
              refine lv_aload_n hx hb dX13_readOne_143 rfl (lv_at hl 0 rfl) ?_
              refine lv_iload_n hx hb dX13_readOne_144 rfl (lv_at hl 1 rfl) ?_
              refine lv_iconst (v := 1) hx hb dX13_readOne_145 (by decide) ?_
              refine lv_iadd hx hb dX13_readOne_146 ?_
              refine lv_topi (fun z_60 ez_60 => ?_)
              have hz_60 : z_60.toInt = a1.toInt + 1 := by rw [ez_60]; exact jb_iadd2 (rfl) ((by decide)) (by omega)
              refine va_calli (A0 := jA base) (H0 := s.heap) (va_runV (As := [.int z_60]) (rest := []) ⟨hx, hb, hml, hown, hts⟩ (ihI (ef - 1) (d - 1) (by omega) G0 H_59 r0 z_60 pk z_58 pn ak n_ak aw n_aw fk fw) (cwV 1 hts (jgV (jWr_63 _ (List.mem_of_getElem? (i := 1) rfl)) (jWr_63 _ (List.mem_of_getElem? (i := 2) rfl)) (jWr_63 _ (List.mem_of_getElem? (i := 3) rfl)) (jWr_12 _ (List.mem_of_getElem? (i := 12) rfl)) (jWr_63 _ (List.mem_of_getElem? (i := 4) rfl))) rfl rfl rfl (by decide +kernel) ⟨by rw [← hR]; show ((ef - 1) + 4 * (d - 1) + 17) + 1 ≤ ef + 4 * d + 14; omega, by rw [← hR]; show 8 + (3 + 11) + (30 * (ef - 1) + 120 * (d - 1) + 690) ≤ 30 * ef + 120 * d + 600; omega⟩) ⟨fun a U g mk q => by obtain ⟨q0, q1, q2, qK, q10, q11, q12, q13, q14, q15⟩ := q; exact ⟨q0, q1, q2, jG.calling g mk a qK, q10, q11, q12, q13, q14, q15⟩, hh_59.recv (C := RX13) (T := TX13) (N := 50) hB15 rfl (by decide) hg_r0 hK, fun U hU hW => ⟨rfl, hU, hh_59.2.1, hG.step hW hU hh_59.1, hg_r0, hg_ak, hg_aw, (hh_59.2.2.1.sub (L1 := [(r0, 15, 30, .int pk), (r0, 15, 32, .int z_58), (r0, 15, 5, .int pn), (r0, 15, 28, .ref ak), (r0, 15, 29, .ref aw)]) [2, 0, 3, 4, 5] rfl), (hh_59.2.2.2.2.2.2.2.1.sub (L1 := [(ak, 167, n_ak, ca 1, fk), (aw, 157, n_aw, ca 1, fw)]) [0, 1] rfl), by first | omega | (refine ⟨?_, ?_, ?_, ?_, ?_, ?_, ?_, ?_, ?_, ?_⟩ <;> (first | omega | rfl | assumption | decide | exact Or.inl rfl | exact Or.inr rfl | (simp only; omega)))⟩⟩ rfl rfl hl.1 rfl (lv_room (Nat.le_of_ble_eq_true rfl)) dX13_readOne_147 ⟨Nat.zero_le _, Nat.zero_le _⟩) hh_59.1 (fun q _ h => h) (fun q h => h) (fun r_62 u_61 t_61 H_61 locs_61 ht_61 hvm_61 hr_62 hb_61 hz_61 hk_61 hS_61 => ?_)
              obtain ⟨qa_61, qn_61⟩ := u_61
              rw [ht_61] at hb_61
              obtain ⟨hb_611, hb_612, hb_613, hb_614, hb_615⟩ := hb_61
              have hh_61 : jSt (dC, dI) B base G0 G0 EX13_readOne s.heap 0 0 [(r0, 15, 32, .int qa_61), (r0, 15, 5, .int qn_61), (r0, 15, 30, .int pk), (r0, 15, 28, .ref ak), (r0, 15, 29, .ref aw)] [(ak, 167, n_ak, ca 1, fk), (aw, 157, n_aw, ca 1, fw)] [] H_61 locs_61 := ((hh_59.call hb_611 hb_612 hb_613 hb_614 hS_61 rfl (L1 := [(r0, 15, 30, .int pk), (r0, 15, 28, .ref ak), (r0, 15, 29, .ref aw)]) [2, 4, 5] rfl rfl (M1 := [(ak, 167, n_ak, ca 1, fk), (aw, 157, n_aw, ca 1, fw)]) [0, 1] rfl rfl (I1 := []) [] rfl rfl).more hb_615)
              clear hh_59 ht_61 hvm_61 hz_61 hk_61 hS_61 hb_611 hb_612 hb_613 hb_614 hb_615
              try simp only at hr_62
              obtain ⟨hr_62_0, hr_62_1, hr_62_2, hr_62_3, hr_62_4, hr_62_5⟩ := hr_62
              refine lv_istore (lv' := [(4, .int r_62), (0, .ref r0), (1, .int a1), (2, .int r_6), (3, .int w0_9)]) hx hb dX13_readOne_150 hl (by decide) rfl (fun ls hl => ?_)
              refine lv_aload_n hx hb dX13_readOne_152 rfl (lv_at hl 1 rfl) ?_
              refine lv_bipush (v := 41) hx hb dX13_readOne_153 (by decide) ?_
              refine va_callv (A0 := jA base) (H0 := s.heap) (va_runV (As := [.int 41]) (rest := []) ⟨hx, hb, hml, hown, hts⟩ (uX13_expect l dC dI ca base B hB hAp hB15 hB157 hB167 G0 H_61 r0 41 pk qa_61) (cwV 1 hts (jgV (jWr_62 _ (List.mem_of_getElem? (i := 17) rfl)) (jWr_62 _ (List.mem_of_getElem? (i := 18) rfl)) (jWr_62 _ (List.mem_of_getElem? (i := 19) rfl)) (jWr_12 _ (List.mem_of_getElem? (i := 12) rfl)) (jWr_62 _ (List.mem_of_getElem? (i := 20) rfl))) rfl rfl rfl (by decide +kernel) ⟨by rw [← hR]; show (1) + 1 ≤ ef + 4 * d + 14; omega, by rw [← hR]; show 8 + (2 + 11) + (21) ≤ 30 * ef + 120 * d + 600; omega⟩) ⟨fun a U g mk q => by obtain ⟨q0, q1, q2, qK, q10, q11, q12⟩ := q; exact ⟨q0, q1, q2, jG.calling g mk a qK, q10, q11, q12⟩, hh_61.recv (C := RX13) (T := TX13) (N := 50) hB15 rfl (by decide) hg_r0 hK, fun U hU hW => ⟨rfl, hU, hh_61.2.1, hG.step hW hU hh_61.1, hg_r0, (hh_61.2.2.1.sub (L1 := [(r0, 15, 30, .int pk), (r0, 15, 32, .int qa_61)]) [2, 0] rfl), by first | omega | (refine ⟨?_, ?_, ?_, ?_⟩ <;> (first | omega | rfl | assumption | decide | exact Or.inl rfl | exact Or.inr rfl | (simp only; omega)))⟩⟩ rfl rfl hl.1 rfl (lv_room (Nat.le_of_ble_eq_true rfl)) dX13_readOne_155 ⟨Nat.zero_le _, Nat.zero_le _⟩) hh_61.1 (fun q _ h => h) (fun q h => h) (fun u_63 t_63 H_63 locs_63 ht_63 hvm_63 hr_64 hb_63 hz_63 hk_63 hS_63 => ?_)
              obtain ⟨qa_63, rfl⟩ : ∃ z, z = u_63 := ⟨_, rfl⟩
              rw [ht_63] at hb_63
              obtain ⟨hb_631, hb_632, hb_633, hb_634, hb_635⟩ := hb_63
              have hh_63 : jSt (dC, dI) B base G0 G0 EX13_readOne s.heap 0 0 [(r0, 15, 32, .int qa_63), (r0, 15, 5, .int qn_61), (r0, 15, 30, .int pk), (r0, 15, 28, .ref ak), (r0, 15, 29, .ref aw)] [(ak, 167, n_ak, ca 1, fk), (aw, 157, n_aw, ca 1, fw)] [] H_63 locs_63 := ((hh_61.call hb_631 hb_632 hb_633 hb_634 hS_63 rfl (L1 := [(r0, 15, 5, .int qn_61), (r0, 15, 30, .int pk), (r0, 15, 28, .ref ak), (r0, 15, 29, .ref aw)]) [1, 2, 3, 4] rfl rfl (M1 := [(ak, 167, n_ak, ca 1, fk), (aw, 157, n_aw, ca 1, fw)]) [0, 1] rfl rfl (I1 := []) [] rfl rfl).more hb_635)
              clear hh_61 ht_63 hvm_63 hz_63 hk_63 hS_63 hb_631 hb_632 hb_633 hb_634 hb_635
              obtain ⟨hr_64_0, hr_64_1, hr_64_2⟩ := hr_64
              refine lv_iload hx hb dX13_readOne_158 (lv_at hl 0 rfl) ?_
              rw [hQ]
              exact W.iret (v := r_62) hx hb hr (fun t ht hW => ⟨⟨r_62, (qa_63, qn_61), rfl, by first | omega | (refine ⟨?_, ?_, ?_, ?_, ?_, ?_⟩ <;> (first | omega | rfl | assumption | decide | exact Or.inl rfl | exact Or.inr rfl | (simp only; omega))), hh_63.rt (M1 := [(r0, 15, 32, .int qa_63), (r0, 15, 5, .int qn_61)]) [0, 1] rfl ht⟩, by rw [ht]; try exact hh_63.1.1, fun q h9 hq => by rw [ht]; try exact hh_63.1.2.1 q h9 hq⟩) hh_63.1.2.2 dX13_readOne_160
          · skip
            have c_14' : r_13.toInt ≠ 0 := jb_eq_n (rfl) ((by decide)) c_14
            refine lv_aload_n hx hb dX13_readOne_86 rfl (lv_at hl 0 rfl) ?_
            refine lv_dup hx hb dX13_readOne_87 rfl ?_
            refine j7_read hx hb hown hK (C := RX13) (T := TX13) (N := 50) rfl hly_15_32 hlk_171 (hh_12.at 2 rfl) dX13_readOne_88 ?_
            refine lv_iconst (v := 1) hx hb dX13_readOne_91 (by decide) ?_
            refine lv_iadd hx hb dX13_readOne_92 ?_
            refine lv_topi (fun z_65 ez_65 => ?_)
            have hz_65 : z_65.toInt = pa.toInt + 1 := by rw [ez_65]; exact jb_iadd2 (rfl) ((by decide)) (by omega)
            refine j7_put hx hb hown hK hh_12 hB hAp hB15 (C := RX13) (T := TX13) (N := 50) rfl (by decide) hg_r0 (i := 32) (by decide) hly_15_32 rfl hlk_171 rfl (ty := .int) (v := .int z_65) (by decide +kernel) rfl rfl (⟨_, rfl, by omega, by omega⟩) rfl (L1 := [(r0, 15, 33, .int ww_10), (r0, 15, 30, .int pk), (r0, 15, 5, .int pn), (r0, 15, 28, .ref ak), (r0, 15, 29, .ref aw)]) [0, 1, 3, 4, 5] rfl rfl rfl dX13_readOne_93 (fun H_66 locs_66 hh_66 => ?_)
            clear hh_12
            refine lv_aload_n hx hb dX13_readOne_96 rfl (lv_at hl 0 rfl) ?_
            refine lv_iload_n hx hb dX13_readOne_97 rfl (lv_at hl 1 rfl) ?_
            refine lv_iconst (v := 1) hx hb dX13_readOne_98 (by decide) ?_
            refine lv_iadd hx hb dX13_readOne_99 ?_
            refine lv_topi (fun z_67 ez_67 => ?_)
            have hz_67 : z_67.toInt = a1.toInt + 1 := by rw [ez_67]; exact jb_iadd2 (rfl) ((by decide)) (by omega)
            refine va_calli (A0 := jA base) (H0 := s.heap) (va_runV (As := [.int z_67]) (rest := []) ⟨hx, hb, hml, hown, hts⟩ (ihO (ef - 1) (d - 1) (by omega) G0 H_66 r0 z_67 pk z_65 pn ak n_ak aw n_aw fk fw) (cwV 1 hts (jgV (jWr_63 _ (List.mem_of_getElem? (i := 9) rfl)) (jWr_63 _ (List.mem_of_getElem? (i := 10) rfl)) (jWr_63 _ (List.mem_of_getElem? (i := 11) rfl)) (jWr_12 _ (List.mem_of_getElem? (i := 12) rfl)) (jWr_63 _ (List.mem_of_getElem? (i := 15) rfl))) rfl rfl rfl (by decide +kernel) ⟨by rw [← hR]; show ((ef - 1) + 4 * (d - 1) + 14) + 1 ≤ ef + 4 * d + 14; omega, by rw [← hR]; show 8 + (5 + 11) + (30 * (ef - 1) + 120 * (d - 1) + 600) ≤ 30 * ef + 120 * d + 600; omega⟩) ⟨fun a U g mk q => by obtain ⟨q0, q1, q2, qK, q10, q11, q12, q13, q14, q15⟩ := q; exact ⟨q0, q1, q2, jG.calling g mk a qK, q10, q11, q12, q13, q14, q15⟩, hh_66.recv (C := RX13) (T := TX13) (N := 50) hB15 rfl (by decide) hg_r0 hK, fun U hU hW => ⟨rfl, hU, hh_66.2.1, hG.step hW hU hh_66.1, hg_r0, hg_ak, hg_aw, (hh_66.2.2.1.sub (L1 := [(r0, 15, 30, .int pk), (r0, 15, 32, .int z_65), (r0, 15, 5, .int pn), (r0, 15, 28, .ref ak), (r0, 15, 29, .ref aw)]) [2, 0, 3, 4, 5] rfl), (hh_66.2.2.2.2.2.2.2.1.sub (L1 := [(ak, 167, n_ak, ca 1, fk), (aw, 157, n_aw, ca 1, fw)]) [0, 1] rfl), by first | omega | (refine ⟨?_, ?_, ?_, ?_, ?_, ?_, ?_, ?_, ?_, ?_⟩ <;> (first | omega | rfl | assumption | decide | exact Or.inl rfl | exact Or.inr rfl | (simp only; omega)))⟩⟩ rfl rfl hl.1 rfl (lv_room (Nat.le_of_ble_eq_true rfl)) dX13_readOne_100 ⟨Nat.zero_le _, Nat.zero_le _⟩) hh_66.1 (fun q _ h => h) (fun q h => h) (fun r_69 u_68 t_68 H_68 locs_68 ht_68 hvm_68 hr_69 hb_68 hz_68 hk_68 hS_68 => ?_)
            obtain ⟨qa_68, qn_68⟩ := u_68
            rw [ht_68] at hb_68
            obtain ⟨hb_681, hb_682, hb_683, hb_684, hb_685⟩ := hb_68
            have hh_68 : jSt (dC, dI) B base G0 G0 EX13_readOne s.heap 0 0 [(r0, 15, 32, .int qa_68), (r0, 15, 5, .int qn_68), (r0, 15, 30, .int pk), (r0, 15, 28, .ref ak), (r0, 15, 29, .ref aw)] [(ak, 167, n_ak, ca 1, fk), (aw, 157, n_aw, ca 1, fw)] [] H_68 locs_68 := ((hh_66.call hb_681 hb_682 hb_683 hb_684 hS_68 rfl (L1 := [(r0, 15, 30, .int pk), (r0, 15, 28, .ref ak), (r0, 15, 29, .ref aw)]) [2, 4, 5] rfl rfl (M1 := [(ak, 167, n_ak, ca 1, fk), (aw, 157, n_aw, ca 1, fw)]) [0, 1] rfl rfl (I1 := []) [] rfl rfl).more hb_685)
            clear hh_66 ht_68 hvm_68 hz_68 hk_68 hS_68 hb_681 hb_682 hb_683 hb_684 hb_685
            try simp only at hr_69
            obtain ⟨hr_69_0, hr_69_1, hr_69_2, hr_69_3, hr_69_4, hr_69_5⟩ := hr_69
            refine lv_istore (lv' := [(4, .int r_69), (0, .ref r0), (1, .int a1), (2, .int r_6), (3, .int w0_9)]) hx hb dX13_readOne_103 hl (by decide) rfl (fun ls hl => ?_)
            refine lv_aload_n hx hb dX13_readOne_105 rfl (lv_at hl 1 rfl) ?_
            refine lv_iconst (v := 0) hx hb dX13_readOne_106 (by decide) ?_
            refine lv_iconst (v := 0) hx hb dX13_readOne_107 (by decide) ?_
            refine lv_iload hx hb dX13_readOne_108 (lv_at hl 0 rfl) ?_
            refine lv_aload_n hx hb dX13_readOne_110 rfl (lv_at hl 1 rfl) ?_
            refine lv_iconst (v := 3) hx hb dX13_readOne_111 (by decide) ?_
            refine lv_iconst (v := 0) hx hb dX13_readOne_112 (by decide) ?_
            refine lv_iconst (v := 0) hx hb dX13_readOne_113 (by decide) ?_
            refine lv_iconst (v := 0) hx hb dX13_readOne_114 (by decide) ?_
            refine lv_iconst (v := 0) hx hb dX13_readOne_115 (by decide) ?_
            refine va_calli (A0 := jA base) (H0 := s.heap) (va_runV (As := [.int 3, .int 0, .int 0, .int 0, .int 0]) (rest := [.int r_69, .int 0, .int 0, .ref r0]) ⟨hx, hb, hml, hown, hts⟩ (uX13_node l dC dI ca base B hB hAp hB15 hB150 hB151 hB152 hB153 hB154 G0 H_68 r0 3 0 0 0 0 qn_68) (cwV 5 hts (jgV (jWr_62 _ (List.mem_of_getElem? (i := 9) rfl)) (jWr_62 _ (List.mem_of_getElem? (i := 10) rfl)) (jWr_62 _ (List.mem_of_getElem? (i := 11) rfl)) (jWr_12 _ (List.mem_of_getElem? (i := 12) rfl)) (jWr_62 _ (List.mem_of_getElem? (i := 12) rfl))) rfl rfl rfl (by decide +kernel) ⟨by rw [← hR]; show (0) + 1 ≤ ef + 4 * d + 14; omega, by rw [← hR]; show 8 + (6 + 11) + (0) ≤ 30 * ef + 120 * d + 600; omega⟩) ⟨fun a U g mk q => by obtain ⟨q0, q1, q2, qK, q10, q11, q12⟩ := q; exact ⟨q0, q1, q2, jG.calling g mk a qK, q10, q11, q12⟩, hh_68.recv (C := RX13) (T := TX13) (N := 50) hB15 rfl (by decide) hg_r0 hK, fun U hU hW => ⟨rfl, hU, hh_68.2.1, hG.step hW hU hh_68.1, hg_r0, (hh_68.2.2.1.sub (L1 := [(r0, 15, 5, .int qn_68)]) [1] rfl), by first | omega | (refine ⟨?_, ?_⟩ <;> (first | omega | rfl | assumption | decide | exact Or.inl rfl | exact Or.inr rfl | (simp only; omega)))⟩⟩ rfl rfl hl.1 rfl (lv_room (Nat.le_of_ble_eq_true rfl)) dX13_readOne_116 ⟨Nat.zero_le _, Nat.zero_le _⟩) hh_68.1 (fun q _ h => h) (fun q h => h) (fun r_71 u_70 t_70 H_70 locs_70 ht_70 hvm_70 hr_71 hb_70 hz_70 hk_70 hS_70 => ?_)
            obtain ⟨qn_70, rfl⟩ : ∃ z, z = u_70 := ⟨_, rfl⟩
            rw [ht_70] at hb_70
            obtain ⟨hb_701, hb_702, hb_703, hb_704, hb_705⟩ := hb_70
            have hh_70 : jSt (dC, dI) B base G0 G0 EX13_readOne s.heap 0 0 [(r0, 15, 5, .int qn_70), (r0, 15, 32, .int qa_68), (r0, 15, 30, .int pk), (r0, 15, 28, .ref ak), (r0, 15, 29, .ref aw)] [(ak, 167, n_ak, ca 1, fk), (aw, 157, n_aw, ca 1, fw)] [] H_70 locs_70 := ((hh_68.call hb_701 hb_702 hb_703 hb_704 hS_70 rfl (L1 := [(r0, 15, 32, .int qa_68), (r0, 15, 30, .int pk), (r0, 15, 28, .ref ak), (r0, 15, 29, .ref aw)]) [0, 2, 3, 4] rfl rfl (M1 := [(ak, 167, n_ak, ca 1, fk), (aw, 157, n_aw, ca 1, fw)]) [0, 1] rfl rfl (I1 := []) [] rfl rfl).more hb_705)
            clear hh_68 ht_70 hvm_70 hz_70 hk_70 hS_70 hb_701 hb_702 hb_703 hb_704 hb_705
            obtain ⟨hr_71_0, hr_71_1⟩ := hr_71
            refine lv_iconst (v := 0) hx hb dX13_readOne_119 (by decide) ?_
            refine va_calli (A0 := jA base) (H0 := s.heap) (va_runV (As := [.int 0, .int 0, .int r_69, .int r_71, .int 0]) (rest := []) ⟨hx, hb, hml, hown, hts⟩ (uX13_node l dC dI ca base B hB hAp hB15 hB150 hB151 hB152 hB153 hB154 G0 H_70 r0 0 0 r_69 r_71 0 qn_70) (cwV 5 hts (jgV (jWr_62 _ (List.mem_of_getElem? (i := 9) rfl)) (jWr_62 _ (List.mem_of_getElem? (i := 10) rfl)) (jWr_62 _ (List.mem_of_getElem? (i := 11) rfl)) (jWr_12 _ (List.mem_of_getElem? (i := 12) rfl)) (jWr_62 _ (List.mem_of_getElem? (i := 12) rfl))) rfl rfl rfl (by decide +kernel) ⟨by rw [← hR]; show (0) + 1 ≤ ef + 4 * d + 14; omega, by rw [← hR]; show 8 + (6 + 11) + (0) ≤ 30 * ef + 120 * d + 600; omega⟩) ⟨fun a U g mk q => by obtain ⟨q0, q1, q2, qK, q10, q11, q12⟩ := q; exact ⟨q0, q1, q2, jG.calling g mk a qK, q10, q11, q12⟩, hh_70.recv (C := RX13) (T := TX13) (N := 50) hB15 rfl (by decide) hg_r0 hK, fun U hU hW => ⟨rfl, hU, hh_70.2.1, hG.step hW hU hh_70.1, hg_r0, (hh_70.2.2.1.sub (L1 := [(r0, 15, 5, .int qn_70)]) [0] rfl), by first | omega | (refine ⟨?_, ?_⟩ <;> (first | omega | rfl | assumption | decide | exact Or.inl rfl | exact Or.inr rfl | (simp only; omega)))⟩⟩ rfl rfl hl.1 rfl (lv_room (Nat.le_of_ble_eq_true rfl)) dX13_readOne_120 ⟨Nat.zero_le _, Nat.zero_le _⟩) hh_70.1 (fun q _ h => h) (fun q h => h) (fun r_73 u_72 t_72 H_72 locs_72 ht_72 hvm_72 hr_73 hb_72 hz_72 hk_72 hS_72 => ?_)
            obtain ⟨qn_72, rfl⟩ : ∃ z, z = u_72 := ⟨_, rfl⟩
            rw [ht_72] at hb_72
            obtain ⟨hb_721, hb_722, hb_723, hb_724, hb_725⟩ := hb_72
            have hh_72 : jSt (dC, dI) B base G0 G0 EX13_readOne s.heap 0 0 [(r0, 15, 5, .int qn_72), (r0, 15, 32, .int qa_68), (r0, 15, 30, .int pk), (r0, 15, 28, .ref ak), (r0, 15, 29, .ref aw)] [(ak, 167, n_ak, ca 1, fk), (aw, 157, n_aw, ca 1, fw)] [] H_72 locs_72 := ((hh_70.call hb_721 hb_722 hb_723 hb_724 hS_72 rfl (L1 := [(r0, 15, 32, .int qa_68), (r0, 15, 30, .int pk), (r0, 15, 28, .ref ak), (r0, 15, 29, .ref aw)]) [1, 2, 3, 4] rfl rfl (M1 := [(ak, 167, n_ak, ca 1, fk), (aw, 157, n_aw, ca 1, fw)]) [0, 1] rfl rfl (I1 := []) [] rfl rfl).more hb_725)
            clear hh_70 ht_72 hvm_72 hz_72 hk_72 hS_72 hb_721 hb_722 hb_723 hb_724 hb_725
            obtain ⟨hr_73_0, hr_73_1⟩ := hr_73
            rw [hQ]
            exact W.iret (v := r_73) hx hb hr (fun t ht hW => ⟨⟨r_73, (qa_68, qn_72), rfl, by first | omega | (refine ⟨?_, ?_, ?_, ?_, ?_, ?_⟩ <;> (first | omega | rfl | assumption | decide | exact Or.inl rfl | exact Or.inr rfl | (simp only; omega))), hh_72.rt (M1 := [(r0, 15, 32, .int qa_68), (r0, 15, 5, .int qn_72)]) [1, 0] rfl ht⟩, by rw [ht]; try exact hh_72.1.1, fun q h9 hq => by rw [ht]; try exact hh_72.1.2.1 q h9 hq⟩) hh_72.1.2.2 dX13_readOne_123
        · skip
          have c_11' : ww_10.toInt ≠ 0 := jb_eq_n (rfl) ((by decide)) c_11
          refine lv_iconst (v := 0) hx hb dX13_readOne_75 (by decide) ?_
          rw [hQ]
          exact W.iret (v := 0) hx hb hr (fun t ht hW => ⟨⟨0, (pa, pn), rfl, by first | omega | (refine ⟨?_, ?_, ?_, ?_, ?_, ?_⟩ <;> (first | omega | rfl | assumption | decide | exact Or.inl rfl | exact Or.inr rfl | (simp only; omega))), hh_10.rt (M1 := [(r0, 15, 32, .int pa), (r0, 15, 5, .int pn)]) [2, 3] rfl ht⟩, by rw [ht]; try exact hh_10.1.1, fun q h9 hq => by rw [ht]; try exact hh_10.1.2.1 q h9 hq⟩) hh_10.1.2.2 dX13_readOne_76
      refine lv_if_eq (tgt := 68) hx hb dX13_readOne_54 (by decide) (fun c_74 => ?_) (fun c_74 => ?_)
      · skip
        have c_74' : w0_9.toInt = 0 := jb_eq (rfl) ((by decide)) c_74
        exact C68 wrong_3 _ _ hh_9 (by first | omega | (refine ⟨?_, ?_, ?_⟩ <;> (first | omega | rfl | assumption | decide | exact Or.inl rfl | exact Or.inr rfl | (simp only; omega)))) _ (lv_sub hl [1, 2, 3, 0] rfl)
      · skip
        have c_74' : w0_9.toInt ≠ 0 := jb_eq_n (rfl) ((by decide)) c_74
        refine lv_iload_n hx hb dX13_readOne_57 rfl (lv_at hl 2 rfl) ?_
        refine lv_bipush (v := 12) hx hb dX13_readOne_58 (by decide) ?_
        refine lv_icmp_ne (tgt := 68) hx hb dX13_readOne_60 (by decide) (fun c_75 => ?_) (fun c_75 => ?_)
        · skip
          have c_75' : a1.toInt ≠ 12 := jb_ne (rfl) ((by decide)) c_75
          exact C68 wrong_3 _ _ hh_9 (by first | omega | (refine ⟨?_, ?_, ?_⟩ <;> (first | omega | rfl | assumption | decide | exact Or.inl rfl | exact Or.inr rfl | (simp only; omega)))) _ (lv_sub hl [1, 2, 3, 0] rfl)
        · skip
          have c_75' : a1.toInt = 12 := jb_ne_n (rfl) ((by decide)) c_75
          refine lv_aload_n hx hb dX13_readOne_63 rfl (lv_at hl 1 rfl) ?_
          refine lv_iconst (v := 1) hx hb dX13_readOne_64 (by decide) ?_
          refine j7_put hx hb hown hK hh_9 hB hAp hB15 (C := RX13) (T := TX13) (N := 50) rfl (by decide) hg_r0 (i := 33) (by decide) hly_15_33 rfl hlk_181 rfl (ty := .boolean) (v := .int 1) (by decide +kernel) (jb_nz (Or.inr rfl)) (jb_fz (Or.inr rfl)) (⟨_, rfl, (Or.inr rfl)⟩) rfl (L1 := [(r0, 15, 30, .int pk), (r0, 15, 32, .int pa), (r0, 15, 5, .int pn), (r0, 15, 28, .ref ak), (r0, 15, 29, .ref aw)]) [1, 2, 3, 4, 5] rfl rfl rfl dX13_readOne_65 (fun H_76 locs_76 hh_76 => ?_)
          clear hh_9
          exact C68 1 _ _ hh_76 (by first | omega | (refine ⟨?_, ?_, ?_⟩ <;> (first | omega | rfl | assumption | decide | exact Or.inl rfl | exact Or.inr rfl | (simp only; omega)))) _ (lv_sub hl [1, 2, 3, 0] rfl)
    refine lv_if_ne (tgt := 47) hx hb dX13_readOne_22 (by decide) (fun c_77 => ?_) (fun c_77 => ?_)
    · skip
      have c_77' : r_8.toInt ≠ 0 := jb_ne (rfl) ((by decide)) c_77
      refine lv_iconst (v := 1) hx hb dX13_readOne_47 (by decide) ?_
      refine lv_goto (tgt := 52) hx hb dX13_readOne_48 (by decide) ?_
      exact C52 1 _ _ hh_7 (Or.inr rfl) (by first | omega | (refine ⟨?_, ?_, ?_⟩ <;> (first | omega | rfl | assumption | decide | exact Or.inl rfl | exact Or.inr rfl | (simp only; omega)))) _ (lv_sub hl [1, 2, 0] rfl)
    · skip
      have c_77' : r_8.toInt = 0 := jb_ne_n (rfl) ((by decide)) c_77
      refine lv_aload_n hx hb dX13_readOne_25 rfl (lv_at hl 1 rfl) ?_
      refine lv_bipush (v := 40) hx hb dX13_readOne_26 (by decide) ?_
      refine va_calli (A0 := jA base) (H0 := s.heap) (va_runV (As := [.int 40]) (rest := []) ⟨hx, hb, hml, hown, hts⟩ (uX13_is l dC dI ca base B hB hAp hB15 hB157 hB167 G0 H_7 r0 40 pk pa ak n_ak aw n_aw fk fw) (cwV 1 hts (jgV (jWr_62 _ (List.mem_of_getElem? (i := 13) rfl)) (jWr_62 _ (List.mem_of_getElem? (i := 14) rfl)) (jWr_62 _ (List.mem_of_getElem? (i := 15) rfl)) (jWr_12 _ (List.mem_of_getElem? (i := 12) rfl)) (jWr_62 _ (List.mem_of_getElem? (i := 16) rfl))) rfl rfl rfl (by decide +kernel) ⟨by rw [← hR]; show (0) + 1 ≤ ef + 4 * d + 14; omega, by rw [← hR]; show 8 + (2 + 11) + (0) ≤ 30 * ef + 120 * d + 600; omega⟩) ⟨fun a U g mk q => by obtain ⟨q0, q1, q2, qK, q10, q11, q12, q13, q14, q15⟩ := q; exact ⟨q0, q1, q2, jG.calling g mk a qK, q10, q11, q12, q13, q14, q15⟩, hh_7.recv (C := RX13) (T := TX13) (N := 50) hB15 rfl (by decide) hg_r0 hK, fun U hU hW => ⟨rfl, hU, hh_7.2.1, hG.step hW hU hh_7.1, hg_r0, hg_ak, hg_aw, (hh_7.2.2.1.sub (L1 := [(r0, 15, 30, .int pk), (r0, 15, 32, .int pa), (r0, 15, 28, .ref ak), (r0, 15, 29, .ref aw)]) [1, 2, 4, 5] rfl), (hh_7.2.2.2.2.2.2.2.1.sub (L1 := [(ak, 167, n_ak, ca 1, fk), (aw, 157, n_aw, ca 1, fw)]) [0, 1] rfl), by first | omega | (refine ⟨?_, ?_, ?_, ?_, ?_, ?_⟩ <;> (first | omega | rfl | assumption | decide | exact Or.inl rfl | exact Or.inr rfl | (simp only; omega)))⟩⟩ rfl rfl hl.1 rfl (lv_room (Nat.le_of_ble_eq_true rfl)) dX13_readOne_28 ⟨Nat.zero_le _, Nat.zero_le _⟩) hh_7.1 (fun q _ h => h) (fun q h => h) (fun r_79 u_78 t_78 H_78 locs_78 ht_78 hvm_78 hr_79 hb_78 hz_78 hk_78 hS_78 => ?_)
      rw [ht_78] at hb_78
      obtain ⟨hb_781, hb_782, hb_783, hb_784, hb_785⟩ := hb_78
      have hh_78 : jSt (dC, dI) B base G0 G0 EX13_readOne s.heap 0 0 [(r0, 15, 33, .int wrong_3), (r0, 15, 30, .int pk), (r0, 15, 32, .int pa), (r0, 15, 5, .int pn), (r0, 15, 28, .ref ak), (r0, 15, 29, .ref aw)] [(ak, 167, n_ak, ca 1, fk), (aw, 157, n_aw, ca 1, fw)] [] H_78 locs_78 := ((hh_7.call hb_781 hb_782 hb_783 hb_784 hS_78 rfl (L1 := [(r0, 15, 33, .int wrong_3), (r0, 15, 30, .int pk), (r0, 15, 32, .int pa), (r0, 15, 5, .int pn), (r0, 15, 28, .ref ak), (r0, 15, 29, .ref aw)]) [0, 1, 2, 3, 4, 5] rfl rfl (M1 := [(ak, 167, n_ak, ca 1, fk), (aw, 157, n_aw, ca 1, fw)]) [0, 1] rfl rfl (I1 := []) [] rfl rfl).more hb_785)
      clear hh_7 ht_78 hvm_78 hz_78 hk_78 hS_78 hb_781 hb_782 hb_783 hb_784 hb_785
      obtain ⟨hr_79b, hr_79p⟩ := hr_79
      obtain ⟨hr_79p_0, hr_79p_1⟩ := hr_79p
      have hr_79' := jb_01 hr_79b
      refine lv_if_ne (tgt := 47) hx hb dX13_readOne_31 (by decide) (fun c_80 => ?_) (fun c_80 => ?_)
      · skip
        have c_80' : r_79.toInt ≠ 0 := jb_ne (rfl) ((by decide)) c_80
        refine lv_iconst (v := 1) hx hb dX13_readOne_47 (by decide) ?_
        refine lv_goto (tgt := 52) hx hb dX13_readOne_48 (by decide) ?_
        exact C52 1 _ _ hh_78 (Or.inr rfl) (by first | omega | (refine ⟨?_, ?_, ?_⟩ <;> (first | omega | rfl | assumption | decide | exact Or.inl rfl | exact Or.inr rfl | (simp only; omega)))) _ (lv_sub hl [1, 2, 0] rfl)
      · skip
        have c_80' : r_79.toInt = 0 := jb_ne_n (rfl) ((by decide)) c_80
        refine lv_iload_n hx hb dX13_readOne_34 rfl (lv_at hl 0 rfl) ?_
        refine lv_if_ne (tgt := 47) hx hb dX13_readOne_35 (by decide) (fun c_81 => ?_) (fun c_81 => ?_)
        · skip
          have c_81' : r_6.toInt ≠ 0 := jb_ne (rfl) ((by decide)) c_81
          first | (have hr_6pq := hr_6p.resolve_left (by omega); clear hr_6p) | (have hr_6pq := hr_6p.resolve_right (by omega); clear hr_6p) | skip
          refine lv_iconst (v := 1) hx hb dX13_readOne_47 (by decide) ?_
          refine lv_goto (tgt := 52) hx hb dX13_readOne_48 (by decide) ?_
          exact C52 1 _ _ hh_78 (Or.inr rfl) (by first | omega | (refine ⟨?_, ?_, ?_⟩ <;> (first | omega | rfl | assumption | decide | exact Or.inl rfl | exact Or.inr rfl | (simp only; omega)))) _ (lv_sub hl [1, 2, 0] rfl)
        · skip
          have c_81' : r_6.toInt = 0 := jb_ne_n (rfl) ((by decide)) c_81
          first | (have hr_6pq := hr_6p.resolve_left (by omega); clear hr_6p) | (have hr_6pq := hr_6p.resolve_right (by omega); clear hr_6p) | skip
          refine lv_aload_n hx hb dX13_readOne_38 rfl (lv_at hl 1 rfl) ?_
          refine va_ldcS hx hb hown rstr190 dX13_readOne_39 ?_
          refine va_calli (A0 := jA base) (H0 := s.heap) (va_runV (As := [.ref str190]) (rest := []) ⟨hx, hb, hml, hown, hts⟩ (uX13_isWord l dC dI ca base B hB hAp hB15 hB155 hB156 hB157 hB166 hB167 G0 H_78 r0 str190 6 pk pa) (cwV 1 hts (jgV (jWr_62 _ (List.mem_of_getElem? (i := 1) rfl)) (jWr_62 _ (List.mem_of_getElem? (i := 2) rfl)) (jWr_62 _ (List.mem_of_getElem? (i := 3) rfl)) (jWr_12 _ (List.mem_of_getElem? (i := 12) rfl)) (jWr_62 _ (List.mem_of_getElem? (i := 4) rfl))) rfl rfl rfl (by decide +kernel) ⟨by rw [← hR]; show (5) + 1 ≤ ef + 4 * d + 14; omega, by rw [← hR]; show 8 + (2 + 11) + (165) ≤ 30 * ef + 120 * d + 600; omega⟩) ⟨fun a U g mk q => by obtain ⟨q0, q1, q2, qK, q10, q11, q12, q13⟩ := q; exact ⟨q0, q1, q2, jG.calling g mk a qK, (q10.moved (Vm.Alike.refl U.vm)), q11, q12, q13⟩, hh_78.recv (C := RX13) (T := TX13) (N := 50) hB15 rfl (by decide) hg_r0 hK, fun U hU hW => ⟨rfl, hU, hh_78.2.1, hG.step hW hU hh_78.1, (hstr190.moved hW.alike).kept hh_78.1.2.1, hg_r0, (hh_78.2.2.1.sub (L1 := [(r0, 15, 30, .int pk), (r0, 15, 32, .int pa)]) [1, 2] rfl), by first | omega | (refine ⟨?_, ?_, ?_, ?_, ?_⟩ <;> (first | omega | rfl | assumption | decide | exact Or.inl rfl | exact Or.inr rfl | (simp only; omega)))⟩⟩ rfl rfl hl.1 rfl (lv_room (Nat.le_of_ble_eq_true rfl)) dX13_readOne_41 ⟨Nat.zero_le _, Nat.zero_le _⟩) hh_78.1 (fun q _ h => h) (fun q h => h) (fun r_83 u_82 t_82 H_82 locs_82 ht_82 hvm_82 hr_83 hb_82 hz_82 hk_82 hS_82 => ?_)
          rw [ht_82] at hb_82
          obtain ⟨hb_821, hb_822, hb_823, hb_824, hb_825⟩ := hb_82
          have hh_82 : jSt (dC, dI) B base G0 G0 EX13_readOne s.heap 0 0 [(r0, 15, 33, .int wrong_3), (r0, 15, 30, .int pk), (r0, 15, 32, .int pa), (r0, 15, 5, .int pn), (r0, 15, 28, .ref ak), (r0, 15, 29, .ref aw)] [(ak, 167, n_ak, ca 1, fk), (aw, 157, n_aw, ca 1, fw)] [] H_82 locs_82 := ((hh_78.call hb_821 hb_822 hb_823 hb_824 hS_82 rfl (L1 := [(r0, 15, 33, .int wrong_3), (r0, 15, 30, .int pk), (r0, 15, 32, .int pa), (r0, 15, 5, .int pn), (r0, 15, 28, .ref ak), (r0, 15, 29, .ref aw)]) [0, 1, 2, 3, 4, 5] rfl rfl (M1 := [(ak, 167, n_ak, ca 1, fk), (aw, 157, n_aw, ca 1, fw)]) [0, 1] rfl rfl (I1 := []) [] rfl rfl).more hb_825)
          clear hh_78 ht_82 hvm_82 hz_82 hk_82 hS_82 hb_821 hb_822 hb_823 hb_824 hb_825
          obtain ⟨hr_83b, hr_83p⟩ := hr_83
          have hr_83' := jb_01 hr_83b
          refine lv_if_eq (tgt := 51) hx hb dX13_readOne_44 (by decide) (fun c_84 => ?_) (fun c_84 => ?_)
          · skip
            have c_84' : r_83.toInt = 0 := jb_eq (rfl) ((by decide)) c_84
            first | (have hr_83pq := hr_83p.resolve_left (by omega); clear hr_83p) | (have hr_83pq := hr_83p.resolve_right (by omega); clear hr_83p) | try clear hr_83p
            refine lv_iconst (v := 0) hx hb dX13_readOne_51 (by decide) ?_
            exact C52 0 _ _ hh_82 (Or.inl rfl) (by first | omega | (refine ⟨?_, ?_, ?_⟩ <;> (first | omega | rfl | assumption | decide | exact Or.inl rfl | exact Or.inr rfl | (simp only; omega)))) _ (lv_sub hl [1, 2, 0] rfl)
          · skip
            have c_84' : r_83.toInt ≠ 0 := jb_eq_n (rfl) ((by decide)) c_84
            first | (have hr_83pq := hr_83p.resolve_left (by omega); clear hr_83p) | (have hr_83pq := hr_83p.resolve_right (by omega); clear hr_83p) | try clear hr_83p
            refine lv_iconst (v := 1) hx hb dX13_readOne_47 (by decide) ?_
            refine lv_goto (tgt := 52) hx hb dX13_readOne_48 (by decide) ?_
            exact C52 1 _ _ hh_82 (Or.inr rfl) (by first | omega | (refine ⟨?_, ?_, ?_⟩ <;> (first | omega | rfl | assumption | decide | exact Or.inl rfl | exact Or.inr rfl | (simp only; omega)))) _ (lv_sub hl [1, 2, 0] rfl)
  · skip
    have c_4' : wrong_3.toInt ≠ 0 := jb_eq_n (rfl) ((by decide)) c_4
    refine lv_iconst (v := 0) hx hb dX13_readOne_7 (by decide) ?_
    rw [hQ]
    exact W.iret (v := 0) hx hb hr (fun t ht hW => ⟨⟨0, (pa, pn), rfl, by first | omega | (refine ⟨?_, ?_, ?_, ?_, ?_, ?_⟩ <;> (first | omega | rfl | assumption | decide | exact Or.inl rfl | exact Or.inr rfl | (simp only; omega))), hh_2.rt (M1 := [(r0, 15, 32, .int pa), (r0, 15, 5, .int pn)]) [2, 3] rfl ht⟩, by rw [ht]; try exact hh_2.1.1, fun q h9 hq => by rw [ht]; try exact hh_2.1.2.1 q h9 hq⟩) hh_2.1.2.2 dX13_readOne_8
set_option maxHeartbeats 4000000 in
set_option maxRecDepth 20000 in
theorem uX13_readAnd (l : Launch) (dC : Nat → ClassId) (dI : Nat → Nat → Nat) (ca : Nat → ClassId) (base : Nat) (B : jF) (hB : jBok B) (hAp : jAp (dC, dI)) (hB15 : ∀ n G a H, B 15 n G a H ↔ jOb (dC, dI) 15 50 (F15 n G) a H) (hB150 : ∀ n G a H, B 150 n G a H ↔ jAr (dC, dI) (ca 1) (fun j z => True) n a H) (hB151 : ∀ n G a H, B 151 n G a H ↔ jAr (dC, dI) (ca 1) (fun j z => True) n a H) (hB152 : ∀ n G a H, B 152 n G a H ↔ jAr (dC, dI) (ca 1) (fun j z => True) n a H) (hB153 : ∀ n G a H, B 153 n G a H ↔ jAr (dC, dI) (ca 1) (fun j z => True) n a H) (hB154 : ∀ n G a H, B 154 n G a H ↔ jAr (dC, dI) (ca 1) (fun j z => True) n a H) (hB155 : ∀ n G a H, B 155 n G a H ↔ jAr (dC, dI) (ca 1) (fun j z => 0 ≤ z.toInt ∧ z.toInt ≤ 11990) n a H) (hB156 : ∀ n G a H, B 156 n G a H ↔ jAr (dC, dI) (ca 1) (fun j z => 0 ≤ z.toInt ∧ z.toInt ≤ 10) n a H) (hB157 : ∀ n G a H, B 157 n G a H ↔ jAr (dC, dI) (ca 1) (fun j z => 0 ≤ z.toInt ∧ z.toInt ≤ 1599) n a H) (hB166 : ∀ n G a H, B 166 n G a H ↔ jAr (dC, dI) (ca 1) (fun j z => True) n a H) (hB167 : ∀ n G a H, B 167 n G a H ↔ jAr (dC, dI) (ca 1) (fun j z => True) n a H) (ef : Nat) (d : Nat) (hO : qX13_readOne l dC dI ca base B ef d) (ihA : ∀ e1, e1 < ef → qX13_readAnd l dC dI ca base B e1 d) (G0 : jT) (H0 : Heap) (r0 : Nat) (a1 : Int32) (pk : Int32) (pa : Int32) (pn : Int32) (ak : Nat) (n_ak : Nat) (aw : Nat) (n_aw : Nat) (fk : Nat → Int32) (fw : Nat → Int32) : Met l yX13_readAnd (jw yX13_readAnd cX13_readAnd 3 (some .int)) ({ frames := ef + 4 * d + 15, cells := 0, slots := 0, locals := 30 * ef + 120 * d + 630 }) (va_Pc [.ref r0, .int a1] (fun U => U.heap = H0 ∧ jX B base G0 [] H0 ∧ jG dC dI ca base U ∧ G0 r0 = some (15, 0) ∧ G0 ak = some (167, n_ak) ∧ G0 aw = some (157, n_aw) ∧ jP (dC, dI) G0 H0 [(r0, 15, 30, .int pk), (r0, 15, 32, .int pa), (r0, 15, 5, .int pn), (r0, 15, 28, .ref ak), (r0, 15, 29, .ref aw)] ∧ jMc (dC, dI) G0 H0 [(ak, 167, n_ak, ca 1, fk), (aw, 157, n_aw, ca 1, fw)] ∧ 0 ≤ pa.toInt ∧ pa.toInt ≤ pk.toInt ∧ pk.toInt ≤ 1500 ∧ 0 ≤ pn.toInt ∧ pn.toInt + 4 * (pk.toInt - pa.toInt) ≤ 119980 ∧ a1.toInt = 12 - d ∧ d ≤ 12 ∧ n_ak = 1500 ∧ n_aw = 1500 ∧ pk.toInt - pa.toInt ≤ ef)) (va_Qi (S := Int32 × Int32) (fun r u => (0 ≤ r.toInt ∧ r.toInt ≤ 119999 ∧ pa.toInt ≤ u.1.toInt ∧ u.1.toInt ≤ pk.toInt ∧ pn.toInt ≤ u.2.toInt ∧ u.2.toInt ≤ pn.toInt + 4 * (u.1.toInt - pa.toInt) + 3)) (fun u t => jRt (dC, dI) B base G0 EX13_readAnd H0 [(r0, 15, 32, .int u.1), (r0, 15, 5, .int u.2)] t.heap) (jA base)) 0 0 (jA base) := by
  refine Met.ofW (cc := cX13_readAnd) (maxL := 3) (ret := (some .int)) (by decide) rfl ?_
  intro p e s m args below meth c s₁ Bd hml hv
  obtain ⟨rfl, hH0, hX, hG, hg_r0, hg_ak, hg_aw, hP0, hM0, hp0, hp1, hp2, hp3, hp4, hp5, hp6, hp7, hp8, hp9⟩ := hv
  have hK := hG.1
  have hx := Bd.exec
  have hb := Bd.bytes
  have hr := Bd.returns
  have hts := atoms_spec (ws := (jw yX13_readAnd cX13_readAnd 3 (some .int))) Bd.pre
  have htw : ∀ w ∈ jWl, w.before _ s = true := fun w h => hts w (List.mem_cons_of_mem _ h)
  have hown : s.vm.findClass RX13 = some m.cls := findClass_of_methodNamed Bd.named
  have hlocks := Bd.notSynchronized
  obtain ⟨Q, hQ⟩ : ∃ Q, Q = MQ below (va_Qi (S := Int32 × Int32) (fun r u => (0 ≤ r.toInt ∧ r.toInt ≤ 119999 ∧ pa.toInt ≤ u.1.toInt ∧ u.1.toInt ≤ pk.toInt ∧ pn.toInt ≤ u.2.toInt ∧ u.2.toInt ≤ pn.toInt + 4 * (u.1.toInt - pa.toInt) + 3)) (fun u t => jRt (dC, dI) B base G0 EX13_readAnd H0 [(r0, 15, 32, .int u.1), (r0, 15, 5, .int u.2)] t.heap) (jA base)) ([.ref r0, .int a1] : List Value).toArray s 0 0 (jA base) := ⟨_, rfl⟩
  rw [← hQ]
  have hl := lv_entry ([.ref r0, .int a1]) (n := 3) (Nat.le_of_ble_eq_true rfl)
  rw [lg_entry_eq]
  generalize (lg_sl ([.ref r0, .int a1]) ++ List.replicate (3 - (lg_sl ([.ref r0, .int a1])).length) Slot.unset).toArray = ls at hl ⊢
  have hl : lv_has ls 3 [(0, .ref r0), (1, .int a1)] := hl
  generalize hR : (headSpec (jw yX13_readAnd cX13_readAnd 3 (some .int)) ({ frames := ef + 4 * d + 15, cells := 0, slots := 0, locals := 30 * ef + 120 * d + 630 })).room = R
  subst hH0
  have hh : jSt (dC, dI) B base G0 G0 EX13_readAnd s.heap 0 0 [(r0, 15, 30, .int pk), (r0, 15, 32, .int pa), (r0, 15, 5, .int pn), (r0, 15, 28, .ref ak), (r0, 15, 29, .ref aw)] [(ak, 167, n_ak, ca 1, fk), (aw, 157, n_aw, ca 1, fw)] [] s.heap [] := jSt.start hX hP0 hM0 jIs.nil
  clear hX hP0
  have hk0 : (0 : Int32).toInt = 0 := by decide
  have hk1 : (1 : Int32).toInt = 1 := by decide
  have hk42 : (42 : Int32).toInt = 42 := by decide
  have hly_15_32 := htw (u_lay RX13 TX13 32) (jWc_wsX130 _ (u_in_lay (by decide)))
  have hly_15_33 := htw (u_lay RX13 TX13 33) (jWc_wsX130 _ (u_in_lay (by decide)))
  have hlk_181 := (htw (.fieldLink RX13 181 "ProofServerModel$Kernel" "wrong" "Z") (jWr_60 _ (List.mem_of_getElem? (i := 2) rfl)))
  have hlk_171 := (htw (.fieldLink RX13 171 "ProofServerModel$Kernel" "at" "I") (jWr_61 _ (List.mem_of_getElem? (i := 11) rfl)))
  have hrg_a1 := jb_rng a1
  refine lv_aload_n hx hb dX13_readAnd_0 rfl (lv_at hl 0 rfl) ?_
  refine lv_iload_n hx hb dX13_readAnd_1 rfl (lv_at hl 1 rfl) ?_
  refine va_calli (A0 := jA base) (H0 := s.heap) (va_runV (As := [.int a1]) (rest := []) ⟨hx, hb, hml, hown, hts⟩ (hO G0 s.heap r0 a1 pk pa pn ak n_ak aw n_aw fk fw) (cwV 1 hts (jgV (jWr_63 _ (List.mem_of_getElem? (i := 9) rfl)) (jWr_63 _ (List.mem_of_getElem? (i := 10) rfl)) (jWr_63 _ (List.mem_of_getElem? (i := 11) rfl)) (jWr_12 _ (List.mem_of_getElem? (i := 12) rfl)) (jWr_63 _ (List.mem_of_getElem? (i := 15) rfl))) rfl rfl rfl (by decide +kernel) ⟨by rw [← hR]; show (ef + 4 * (d) + 14) + 1 ≤ ef + 4 * d + 15; omega, by rw [← hR]; show 8 + (5 + 11) + (30 * (ef) + 120 * (d) + 600) ≤ 30 * ef + 120 * d + 630; omega⟩) ⟨fun a U g mk q => by obtain ⟨q0, q1, q2, qK, q10, q11, q12, q13, q14, q15⟩ := q; exact ⟨q0, q1, q2, jG.calling g mk a qK, q10, q11, q12, q13, q14, q15⟩, hh.recv (C := RX13) (T := TX13) (N := 50) hB15 rfl (by decide) hg_r0 hK, fun U hU hW => ⟨rfl, hU, hh.2.1, hG.step hW hU hh.1, hg_r0, hg_ak, hg_aw, (hh.2.2.1.sub (L1 := [(r0, 15, 30, .int pk), (r0, 15, 32, .int pa), (r0, 15, 5, .int pn), (r0, 15, 28, .ref ak), (r0, 15, 29, .ref aw)]) [0, 1, 2, 3, 4] rfl), (hh.2.2.2.2.2.2.2.1.sub (L1 := [(ak, 167, n_ak, ca 1, fk), (aw, 157, n_aw, ca 1, fw)]) [0, 1] rfl), by first | omega | (refine ⟨?_, ?_, ?_, ?_, ?_, ?_, ?_, ?_, ?_, ?_⟩ <;> (first | omega | rfl | assumption | decide | exact Or.inl rfl | exact Or.inr rfl | (simp only; omega)))⟩⟩ rfl rfl hl.1 rfl (lv_room (Nat.le_of_ble_eq_true rfl)) dX13_readAnd_2 ⟨Nat.zero_le _, Nat.zero_le _⟩) hh.1 (fun q _ h => h) (fun q h => h) (fun r_2 u_1 t_1 H_1 locs_1 ht_1 hvm_1 hr_2 hb_1 hz_1 hk_1 hS_1 => ?_)
  obtain ⟨qa_1, qn_1⟩ := u_1
  rw [ht_1] at hb_1
  obtain ⟨hb_11, hb_12, hb_13, hb_14, hb_15⟩ := hb_1
  have hh_1 : jSt (dC, dI) B base G0 G0 EX13_readAnd s.heap 0 0 [(r0, 15, 32, .int qa_1), (r0, 15, 5, .int qn_1), (r0, 15, 30, .int pk), (r0, 15, 28, .ref ak), (r0, 15, 29, .ref aw)] [(ak, 167, n_ak, ca 1, fk), (aw, 157, n_aw, ca 1, fw)] [] H_1 locs_1 := ((hh.call hb_11 hb_12 hb_13 hb_14 hS_1 rfl (L1 := [(r0, 15, 30, .int pk), (r0, 15, 28, .ref ak), (r0, 15, 29, .ref aw)]) [0, 3, 4] rfl rfl (M1 := [(ak, 167, n_ak, ca 1, fk), (aw, 157, n_aw, ca 1, fw)]) [0, 1] rfl rfl (I1 := []) [] rfl rfl).more hb_15)
  clear hh ht_1 hvm_1 hz_1 hk_1 hS_1 hb_11 hb_12 hb_13 hb_14 hb_15
  try simp only at hr_2
  obtain ⟨hr_2_0, hr_2_1, hr_2_2, hr_2_3, hr_2_4, hr_2_5⟩ := hr_2
  refine lv_istore_n (lv' := [(2, .int r_2), (0, .ref r0), (1, .int a1)]) hx hb dX13_readAnd_5 rfl hl (by decide) rfl (fun ls hl => ?_)
  refine lv_aload_n hx hb dX13_readAnd_6 rfl (lv_at hl 1 rfl) ?_
  obtain ⟨v_3, hv_3, hh_4⟩ := hh_1.pin (C := RX13) (T := TX13) (N := 50) hB15 rfl (by decide) hg_r0 (i := 33) (by decide) rfl
  clear hh_1
  obtain ⟨wrong_5, rfl, hzwrong_5⟩ := hv_3
  have hzwrong_5' := jb_01 hzwrong_5
  refine j7_read hx hb hown hK (C := RX13) (T := TX13) (N := 50) rfl hly_15_33 hlk_181 (hh_4.at 0 rfl) dX13_readAnd_7 ?_
  refine lv_if_ne (tgt := 22) hx hb dX13_readAnd_10 (by decide) (fun c_6 => ?_) (fun c_6 => ?_)
  · skip
    have c_6' : wrong_5.toInt ≠ 0 := jb_ne (rfl) ((by decide)) c_6
    refine lv_iload_n hx hb dX13_readAnd_22 rfl (lv_at hl 0 rfl) ?_
    rw [hQ]
    exact W.iret (v := r_2) hx hb hr (fun t ht hW => ⟨⟨r_2, (qa_1, qn_1), rfl, by first | omega | (refine ⟨?_, ?_, ?_, ?_, ?_, ?_⟩ <;> (first | omega | rfl | assumption | decide | exact Or.inl rfl | exact Or.inr rfl | (simp only; omega))), hh_4.rt (M1 := [(r0, 15, 32, .int qa_1), (r0, 15, 5, .int qn_1)]) [1, 2] rfl ht⟩, by rw [ht]; try exact hh_4.1.1, fun q h9 hq => by rw [ht]; try exact hh_4.1.2.1 q h9 hq⟩) hh_4.1.2.2 dX13_readAnd_23
  · skip
    have c_6' : wrong_5.toInt = 0 := jb_ne_n (rfl) ((by decide)) c_6
    refine lv_aload_n hx hb dX13_readAnd_13 rfl (lv_at hl 1 rfl) ?_
    refine lv_bipush (v := 42) hx hb dX13_readAnd_14 (by decide) ?_
    refine va_calli (A0 := jA base) (H0 := s.heap) (va_runV (As := [.int 42]) (rest := []) ⟨hx, hb, hml, hown, hts⟩ (uX13_is l dC dI ca base B hB hAp hB15 hB157 hB167 G0 H_1 r0 42 pk qa_1 ak n_ak aw n_aw fk fw) (cwV 1 hts (jgV (jWr_62 _ (List.mem_of_getElem? (i := 13) rfl)) (jWr_62 _ (List.mem_of_getElem? (i := 14) rfl)) (jWr_62 _ (List.mem_of_getElem? (i := 15) rfl)) (jWr_12 _ (List.mem_of_getElem? (i := 12) rfl)) (jWr_62 _ (List.mem_of_getElem? (i := 16) rfl))) rfl rfl rfl (by decide +kernel) ⟨by rw [← hR]; show (0) + 1 ≤ ef + 4 * d + 15; omega, by rw [← hR]; show 8 + (2 + 11) + (0) ≤ 30 * ef + 120 * d + 630; omega⟩) ⟨fun a U g mk q => by obtain ⟨q0, q1, q2, qK, q10, q11, q12, q13, q14, q15⟩ := q; exact ⟨q0, q1, q2, jG.calling g mk a qK, q10, q11, q12, q13, q14, q15⟩, hh_4.recv (C := RX13) (T := TX13) (N := 50) hB15 rfl (by decide) hg_r0 hK, fun U hU hW => ⟨rfl, hU, hh_4.2.1, hG.step hW hU hh_4.1, hg_r0, hg_ak, hg_aw, (hh_4.2.2.1.sub (L1 := [(r0, 15, 30, .int pk), (r0, 15, 32, .int qa_1), (r0, 15, 28, .ref ak), (r0, 15, 29, .ref aw)]) [3, 1, 4, 5] rfl), (hh_4.2.2.2.2.2.2.2.1.sub (L1 := [(ak, 167, n_ak, ca 1, fk), (aw, 157, n_aw, ca 1, fw)]) [0, 1] rfl), by first | omega | (refine ⟨?_, ?_, ?_, ?_, ?_, ?_⟩ <;> (first | omega | rfl | assumption | decide | exact Or.inl rfl | exact Or.inr rfl | (simp only; omega)))⟩⟩ rfl rfl hl.1 rfl (lv_room (Nat.le_of_ble_eq_true rfl)) dX13_readAnd_16 ⟨Nat.zero_le _, Nat.zero_le _⟩) hh_4.1 (fun q _ h => h) (fun q h => h) (fun r_8 u_7 t_7 H_7 locs_7 ht_7 hvm_7 hr_8 hb_7 hz_7 hk_7 hS_7 => ?_)
    rw [ht_7] at hb_7
    obtain ⟨hb_71, hb_72, hb_73, hb_74, hb_75⟩ := hb_7
    have hh_7 : jSt (dC, dI) B base G0 G0 EX13_readAnd s.heap 0 0 [(r0, 15, 33, .int wrong_5), (r0, 15, 32, .int qa_1), (r0, 15, 5, .int qn_1), (r0, 15, 30, .int pk), (r0, 15, 28, .ref ak), (r0, 15, 29, .ref aw)] [(ak, 167, n_ak, ca 1, fk), (aw, 157, n_aw, ca 1, fw)] [] H_7 locs_7 := ((hh_4.call hb_71 hb_72 hb_73 hb_74 hS_7 rfl (L1 := [(r0, 15, 33, .int wrong_5), (r0, 15, 32, .int qa_1), (r0, 15, 5, .int qn_1), (r0, 15, 30, .int pk), (r0, 15, 28, .ref ak), (r0, 15, 29, .ref aw)]) [0, 1, 2, 3, 4, 5] rfl rfl (M1 := [(ak, 167, n_ak, ca 1, fk), (aw, 157, n_aw, ca 1, fw)]) [0, 1] rfl rfl (I1 := []) [] rfl rfl).more hb_75)
    clear hh_4 ht_7 hvm_7 hz_7 hk_7 hS_7 hb_71 hb_72 hb_73 hb_74 hb_75
    obtain ⟨hr_8b, hr_8p⟩ := hr_8
    obtain ⟨hr_8p_0, hr_8p_1⟩ := hr_8p
    have hr_8' := jb_01 hr_8b
    refine lv_if_ne (tgt := 24) hx hb dX13_readAnd_19 (by decide) (fun c_9 => ?_) (fun c_9 => ?_)
    · skip
      have c_9' : r_8.toInt ≠ 0 := jb_ne (rfl) ((by decide)) c_9
      refine lv_aload_n hx hb dX13_readAnd_24 rfl (lv_at hl 1 rfl) ?_
      refine lv_dup hx hb dX13_readAnd_25 rfl ?_
      refine j7_read hx hb hown hK (C := RX13) (T := TX13) (N := 50) rfl hly_15_32 hlk_171 (hh_7.at 1 rfl) dX13_readAnd_26 ?_
      refine lv_iconst (v := 1) hx hb dX13_readAnd_29 (by decide) ?_
      refine lv_iadd hx hb dX13_readAnd_30 ?_
      refine lv_topi (fun z_10 ez_10 => ?_)
      have hz_10 : z_10.toInt = qa_1.toInt + 1 := by rw [ez_10]; exact jb_iadd2 (rfl) ((by decide)) (by omega)
      refine j7_put hx hb hown hK hh_7 hB hAp hB15 (C := RX13) (T := TX13) (N := 50) rfl (by decide) hg_r0 (i := 32) (by decide) hly_15_32 rfl hlk_171 rfl (ty := .int) (v := .int z_10) (by decide +kernel) rfl rfl (⟨_, rfl, by omega, by omega⟩) rfl (L1 := [(r0, 15, 33, .int wrong_5), (r0, 15, 5, .int qn_1), (r0, 15, 30, .int pk), (r0, 15, 28, .ref ak), (r0, 15, 29, .ref aw)]) [0, 2, 3, 4, 5] rfl rfl rfl dX13_readAnd_31 (fun H_11 locs_11 hh_11 => ?_)
      clear hh_7
      refine lv_aload_n hx hb dX13_readAnd_34 rfl (lv_at hl 1 rfl) ?_
      refine lv_iconst (v := 1) hx hb dX13_readAnd_35 (by decide) ?_
      refine lv_iconst (v := 0) hx hb dX13_readAnd_36 (by decide) ?_
      refine lv_iload_n hx hb dX13_readAnd_37 rfl (lv_at hl 0 rfl) ?_
      refine lv_aload_n hx hb dX13_readAnd_38 rfl (lv_at hl 1 rfl) ?_
      refine lv_iload_n hx hb dX13_readAnd_39 rfl (lv_at hl 2 rfl) ?_
      refine va_calli (A0 := jA base) (H0 := s.heap) (va_runV (As := [.int a1]) (rest := [.int r_2, .int 0, .int 1, .ref r0]) ⟨hx, hb, hml, hown, hts⟩ (ihA (ef - 1) (by omega) G0 H_11 r0 a1 pk z_10 qn_1 ak n_ak aw n_aw fk fw) (cwV 1 hts (jgV (jWr_63 _ (List.mem_of_getElem? (i := 12) rfl)) (jWr_63 _ (List.mem_of_getElem? (i := 13) rfl)) (jWr_63 _ (List.mem_of_getElem? (i := 14) rfl)) (jWr_12 _ (List.mem_of_getElem? (i := 12) rfl)) (jWr_63 _ (List.mem_of_getElem? (i := 8) rfl))) rfl rfl rfl (by decide +kernel) ⟨by rw [← hR]; show ((ef - 1) + 4 * (d) + 15) + 1 ≤ ef + 4 * d + 15; omega, by rw [← hR]; show 8 + (3 + 11) + (30 * (ef - 1) + 120 * (d) + 630) ≤ 30 * ef + 120 * d + 630; omega⟩) ⟨fun a U g mk q => by obtain ⟨q0, q1, q2, qK, q10, q11, q12, q13, q14, q15⟩ := q; exact ⟨q0, q1, q2, jG.calling g mk a qK, q10, q11, q12, q13, q14, q15⟩, hh_11.recv (C := RX13) (T := TX13) (N := 50) hB15 rfl (by decide) hg_r0 hK, fun U hU hW => ⟨rfl, hU, hh_11.2.1, hG.step hW hU hh_11.1, hg_r0, hg_ak, hg_aw, (hh_11.2.2.1.sub (L1 := [(r0, 15, 30, .int pk), (r0, 15, 32, .int z_10), (r0, 15, 5, .int qn_1), (r0, 15, 28, .ref ak), (r0, 15, 29, .ref aw)]) [3, 0, 2, 4, 5] rfl), (hh_11.2.2.2.2.2.2.2.1.sub (L1 := [(ak, 167, n_ak, ca 1, fk), (aw, 157, n_aw, ca 1, fw)]) [0, 1] rfl), by first | omega | (refine ⟨?_, ?_, ?_, ?_, ?_, ?_, ?_, ?_, ?_, ?_⟩ <;> (first | omega | rfl | assumption | decide | exact Or.inl rfl | exact Or.inr rfl | (simp only; omega)))⟩⟩ rfl rfl hl.1 rfl (lv_room (Nat.le_of_ble_eq_true rfl)) dX13_readAnd_40 ⟨Nat.zero_le _, Nat.zero_le _⟩) hh_11.1 (fun q _ h => h) (fun q h => h) (fun r_13 u_12 t_12 H_12 locs_12 ht_12 hvm_12 hr_13 hb_12 hz_12 hk_12 hS_12 => ?_)
      obtain ⟨qa_12, qn_12⟩ := u_12
      rw [ht_12] at hb_12
      obtain ⟨hb_121, hb_122, hb_123, hb_124, hb_125⟩ := hb_12
      have hh_12 : jSt (dC, dI) B base G0 G0 EX13_readAnd s.heap 0 0 [(r0, 15, 32, .int qa_12), (r0, 15, 5, .int qn_12), (r0, 15, 30, .int pk), (r0, 15, 28, .ref ak), (r0, 15, 29, .ref aw)] [(ak, 167, n_ak, ca 1, fk), (aw, 157, n_aw, ca 1, fw)] [] H_12 locs_12 := ((hh_11.call hb_121 hb_122 hb_123 hb_124 hS_12 rfl (L1 := [(r0, 15, 30, .int pk), (r0, 15, 28, .ref ak), (r0, 15, 29, .ref aw)]) [3, 4, 5] rfl rfl (M1 := [(ak, 167, n_ak, ca 1, fk), (aw, 157, n_aw, ca 1, fw)]) [0, 1] rfl rfl (I1 := []) [] rfl rfl).more hb_125)
      clear hh_11 ht_12 hvm_12 hz_12 hk_12 hS_12 hb_121 hb_122 hb_123 hb_124 hb_125
      try simp only at hr_13
      obtain ⟨hr_13_0, hr_13_1, hr_13_2, hr_13_3, hr_13_4, hr_13_5⟩ := hr_13
      refine lv_iconst (v := 0) hx hb dX13_readAnd_43 (by decide) ?_
      refine va_calli (A0 := jA base) (H0 := s.heap) (va_runV (As := [.int 1, .int 0, .int r_2, .int r_13, .int 0]) (rest := []) ⟨hx, hb, hml, hown, hts⟩ (uX13_node l dC dI ca base B hB hAp hB15 hB150 hB151 hB152 hB153 hB154 G0 H_12 r0 1 0 r_2 r_13 0 qn_12) (cwV 5 hts (jgV (jWr_62 _ (List.mem_of_getElem? (i := 9) rfl)) (jWr_62 _ (List.mem_of_getElem? (i := 10) rfl)) (jWr_62 _ (List.mem_of_getElem? (i := 11) rfl)) (jWr_12 _ (List.mem_of_getElem? (i := 12) rfl)) (jWr_62 _ (List.mem_of_getElem? (i := 12) rfl))) rfl rfl rfl (by decide +kernel) ⟨by rw [← hR]; show (0) + 1 ≤ ef + 4 * d + 15; omega, by rw [← hR]; show 8 + (6 + 11) + (0) ≤ 30 * ef + 120 * d + 630; omega⟩) ⟨fun a U g mk q => by obtain ⟨q0, q1, q2, qK, q10, q11, q12⟩ := q; exact ⟨q0, q1, q2, jG.calling g mk a qK, q10, q11, q12⟩, hh_12.recv (C := RX13) (T := TX13) (N := 50) hB15 rfl (by decide) hg_r0 hK, fun U hU hW => ⟨rfl, hU, hh_12.2.1, hG.step hW hU hh_12.1, hg_r0, (hh_12.2.2.1.sub (L1 := [(r0, 15, 5, .int qn_12)]) [1] rfl), by first | omega | (refine ⟨?_, ?_⟩ <;> (first | omega | rfl | assumption | decide | exact Or.inl rfl | exact Or.inr rfl | (simp only; omega)))⟩⟩ rfl rfl hl.1 rfl (lv_room (Nat.le_of_ble_eq_true rfl)) dX13_readAnd_44 ⟨Nat.zero_le _, Nat.zero_le _⟩) hh_12.1 (fun q _ h => h) (fun q h => h) (fun r_15 u_14 t_14 H_14 locs_14 ht_14 hvm_14 hr_15 hb_14 hz_14 hk_14 hS_14 => ?_)
      obtain ⟨qn_14, rfl⟩ : ∃ z, z = u_14 := ⟨_, rfl⟩
      rw [ht_14] at hb_14
      obtain ⟨hb_141, hb_142, hb_143, hb_144, hb_145⟩ := hb_14
      have hh_14 : jSt (dC, dI) B base G0 G0 EX13_readAnd s.heap 0 0 [(r0, 15, 5, .int qn_14), (r0, 15, 32, .int qa_12), (r0, 15, 30, .int pk), (r0, 15, 28, .ref ak), (r0, 15, 29, .ref aw)] [(ak, 167, n_ak, ca 1, fk), (aw, 157, n_aw, ca 1, fw)] [] H_14 locs_14 := ((hh_12.call hb_141 hb_142 hb_143 hb_144 hS_14 rfl (L1 := [(r0, 15, 32, .int qa_12), (r0, 15, 30, .int pk), (r0, 15, 28, .ref ak), (r0, 15, 29, .ref aw)]) [0, 2, 3, 4] rfl rfl (M1 := [(ak, 167, n_ak, ca 1, fk), (aw, 157, n_aw, ca 1, fw)]) [0, 1] rfl rfl (I1 := []) [] rfl rfl).more hb_145)
      clear hh_12 ht_14 hvm_14 hz_14 hk_14 hS_14 hb_141 hb_142 hb_143 hb_144 hb_145
      obtain ⟨hr_15_0, hr_15_1⟩ := hr_15
      rw [hQ]
      exact W.iret (v := r_15) hx hb hr (fun t ht hW => ⟨⟨r_15, (qa_12, qn_14), rfl, by first | omega | (refine ⟨?_, ?_, ?_, ?_, ?_, ?_⟩ <;> (first | omega | rfl | assumption | decide | exact Or.inl rfl | exact Or.inr rfl | (simp only; omega))), hh_14.rt (M1 := [(r0, 15, 32, .int qa_12), (r0, 15, 5, .int qn_14)]) [1, 0] rfl ht⟩, by rw [ht]; try exact hh_14.1.1, fun q h9 hq => by rw [ht]; try exact hh_14.1.2.1 q h9 hq⟩) hh_14.1.2.2 dX13_readAnd_47
    · skip
      have c_9' : r_8.toInt = 0 := jb_ne_n (rfl) ((by decide)) c_9
      refine lv_iload_n hx hb dX13_readAnd_22 rfl (lv_at hl 0 rfl) ?_
      rw [hQ]
      exact W.iret (v := r_2) hx hb hr (fun t ht hW => ⟨⟨r_2, (qa_1, qn_1), rfl, by first | omega | (refine ⟨?_, ?_, ?_, ?_, ?_, ?_⟩ <;> (first | omega | rfl | assumption | decide | exact Or.inl rfl | exact Or.inr rfl | (simp only; omega))), hh_7.rt (M1 := [(r0, 15, 32, .int qa_1), (r0, 15, 5, .int qn_1)]) [1, 2] rfl ht⟩, by rw [ht]; try exact hh_7.1.1, fun q h9 hq => by rw [ht]; try exact hh_7.1.2.1 q h9 hq⟩) hh_7.1.2.2 dX13_readAnd_23
set_option maxHeartbeats 4000000 in
set_option maxRecDepth 20000 in
theorem uX13_readOr (l : Launch) (dC : Nat → ClassId) (dI : Nat → Nat → Nat) (ca : Nat → ClassId) (base : Nat) (B : jF) (hB : jBok B) (hAp : jAp (dC, dI)) (hB15 : ∀ n G a H, B 15 n G a H ↔ jOb (dC, dI) 15 50 (F15 n G) a H) (hB150 : ∀ n G a H, B 150 n G a H ↔ jAr (dC, dI) (ca 1) (fun j z => True) n a H) (hB151 : ∀ n G a H, B 151 n G a H ↔ jAr (dC, dI) (ca 1) (fun j z => True) n a H) (hB152 : ∀ n G a H, B 152 n G a H ↔ jAr (dC, dI) (ca 1) (fun j z => True) n a H) (hB153 : ∀ n G a H, B 153 n G a H ↔ jAr (dC, dI) (ca 1) (fun j z => True) n a H) (hB154 : ∀ n G a H, B 154 n G a H ↔ jAr (dC, dI) (ca 1) (fun j z => True) n a H) (hB155 : ∀ n G a H, B 155 n G a H ↔ jAr (dC, dI) (ca 1) (fun j z => 0 ≤ z.toInt ∧ z.toInt ≤ 11990) n a H) (hB156 : ∀ n G a H, B 156 n G a H ↔ jAr (dC, dI) (ca 1) (fun j z => 0 ≤ z.toInt ∧ z.toInt ≤ 10) n a H) (hB157 : ∀ n G a H, B 157 n G a H ↔ jAr (dC, dI) (ca 1) (fun j z => 0 ≤ z.toInt ∧ z.toInt ≤ 1599) n a H) (hB166 : ∀ n G a H, B 166 n G a H ↔ jAr (dC, dI) (ca 1) (fun j z => True) n a H) (hB167 : ∀ n G a H, B 167 n G a H ↔ jAr (dC, dI) (ca 1) (fun j z => True) n a H) (ef : Nat) (d : Nat) (hA : qX13_readAnd l dC dI ca base B ef d) (ihO : ∀ e1, e1 < ef → qX13_readOr l dC dI ca base B e1 d) (G0 : jT) (H0 : Heap) (r0 : Nat) (a1 : Int32) (pk : Int32) (pa : Int32) (pn : Int32) (ak : Nat) (n_ak : Nat) (aw : Nat) (n_aw : Nat) (fk : Nat → Int32) (fw : Nat → Int32) : Met l yX13_readOr (jw yX13_readOr cX13_readOr 3 (some .int)) ({ frames := ef + 4 * d + 16, cells := 0, slots := 0, locals := 30 * ef + 120 * d + 660 }) (va_Pc [.ref r0, .int a1] (fun U => U.heap = H0 ∧ jX B base G0 [] H0 ∧ jG dC dI ca base U ∧ G0 r0 = some (15, 0) ∧ G0 ak = some (167, n_ak) ∧ G0 aw = some (157, n_aw) ∧ jP (dC, dI) G0 H0 [(r0, 15, 30, .int pk), (r0, 15, 32, .int pa), (r0, 15, 5, .int pn), (r0, 15, 28, .ref ak), (r0, 15, 29, .ref aw)] ∧ jMc (dC, dI) G0 H0 [(ak, 167, n_ak, ca 1, fk), (aw, 157, n_aw, ca 1, fw)] ∧ 0 ≤ pa.toInt ∧ pa.toInt ≤ pk.toInt ∧ pk.toInt ≤ 1500 ∧ 0 ≤ pn.toInt ∧ pn.toInt + 4 * (pk.toInt - pa.toInt) ≤ 119980 ∧ a1.toInt = 12 - d ∧ d ≤ 12 ∧ n_ak = 1500 ∧ n_aw = 1500 ∧ pk.toInt - pa.toInt ≤ ef)) (va_Qi (S := Int32 × Int32) (fun r u => (0 ≤ r.toInt ∧ r.toInt ≤ 119999 ∧ pa.toInt ≤ u.1.toInt ∧ u.1.toInt ≤ pk.toInt ∧ pn.toInt ≤ u.2.toInt ∧ u.2.toInt ≤ pn.toInt + 4 * (u.1.toInt - pa.toInt) + 3)) (fun u t => jRt (dC, dI) B base G0 EX13_readOr H0 [(r0, 15, 32, .int u.1), (r0, 15, 5, .int u.2)] t.heap) (jA base)) 0 0 (jA base) := by
  refine Met.ofW (cc := cX13_readOr) (maxL := 3) (ret := (some .int)) (by decide) rfl ?_
  intro p e s m args below meth c s₁ Bd hml hv
  obtain ⟨rfl, hH0, hX, hG, hg_r0, hg_ak, hg_aw, hP0, hM0, hp0, hp1, hp2, hp3, hp4, hp5, hp6, hp7, hp8, hp9⟩ := hv
  have hK := hG.1
  have hx := Bd.exec
  have hb := Bd.bytes
  have hr := Bd.returns
  have hts := atoms_spec (ws := (jw yX13_readOr cX13_readOr 3 (some .int))) Bd.pre
  have htw : ∀ w ∈ jWl, w.before _ s = true := fun w h => hts w (List.mem_cons_of_mem _ h)
  have hown : s.vm.findClass RX13 = some m.cls := findClass_of_methodNamed Bd.named
  have hlocks := Bd.notSynchronized
  obtain ⟨Q, hQ⟩ : ∃ Q, Q = MQ below (va_Qi (S := Int32 × Int32) (fun r u => (0 ≤ r.toInt ∧ r.toInt ≤ 119999 ∧ pa.toInt ≤ u.1.toInt ∧ u.1.toInt ≤ pk.toInt ∧ pn.toInt ≤ u.2.toInt ∧ u.2.toInt ≤ pn.toInt + 4 * (u.1.toInt - pa.toInt) + 3)) (fun u t => jRt (dC, dI) B base G0 EX13_readOr H0 [(r0, 15, 32, .int u.1), (r0, 15, 5, .int u.2)] t.heap) (jA base)) ([.ref r0, .int a1] : List Value).toArray s 0 0 (jA base) := ⟨_, rfl⟩
  rw [← hQ]
  have hl := lv_entry ([.ref r0, .int a1]) (n := 3) (Nat.le_of_ble_eq_true rfl)
  rw [lg_entry_eq]
  generalize (lg_sl ([.ref r0, .int a1]) ++ List.replicate (3 - (lg_sl ([.ref r0, .int a1])).length) Slot.unset).toArray = ls at hl ⊢
  have hl : lv_has ls 3 [(0, .ref r0), (1, .int a1)] := hl
  generalize hR : (headSpec (jw yX13_readOr cX13_readOr 3 (some .int)) ({ frames := ef + 4 * d + 16, cells := 0, slots := 0, locals := 30 * ef + 120 * d + 660 })).room = R
  subst hH0
  have hh : jSt (dC, dI) B base G0 G0 EX13_readOr s.heap 0 0 [(r0, 15, 30, .int pk), (r0, 15, 32, .int pa), (r0, 15, 5, .int pn), (r0, 15, 28, .ref ak), (r0, 15, 29, .ref aw)] [(ak, 167, n_ak, ca 1, fk), (aw, 157, n_aw, ca 1, fw)] [] s.heap [] := jSt.start hX hP0 hM0 jIs.nil
  clear hX hP0
  have hk0 : (0 : Int32).toInt = 0 := by decide
  have hk1 : (1 : Int32).toInt = 1 := by decide
  have hk2 : (2 : Int32).toInt = 2 := by decide
  have hk43 : (43 : Int32).toInt = 43 := by decide
  have hly_15_32 := htw (u_lay RX13 TX13 32) (jWc_wsX130 _ (u_in_lay (by decide)))
  have hly_15_33 := htw (u_lay RX13 TX13 33) (jWc_wsX130 _ (u_in_lay (by decide)))
  have hlk_181 := (htw (.fieldLink RX13 181 "ProofServerModel$Kernel" "wrong" "Z") (jWr_60 _ (List.mem_of_getElem? (i := 2) rfl)))
  have hlk_171 := (htw (.fieldLink RX13 171 "ProofServerModel$Kernel" "at" "I") (jWr_61 _ (List.mem_of_getElem? (i := 11) rfl)))
  have hrg_a1 := jb_rng a1
  refine lv_aload_n hx hb dX13_readOr_0 rfl (lv_at hl 0 rfl) ?_
  refine lv_iload_n hx hb dX13_readOr_1 rfl (lv_at hl 1 rfl) ?_
  refine va_calli (A0 := jA base) (H0 := s.heap) (va_runV (As := [.int a1]) (rest := []) ⟨hx, hb, hml, hown, hts⟩ (hA G0 s.heap r0 a1 pk pa pn ak n_ak aw n_aw fk fw) (cwV 1 hts (jgV (jWr_63 _ (List.mem_of_getElem? (i := 12) rfl)) (jWr_63 _ (List.mem_of_getElem? (i := 13) rfl)) (jWr_63 _ (List.mem_of_getElem? (i := 14) rfl)) (jWr_12 _ (List.mem_of_getElem? (i := 12) rfl)) (jWr_63 _ (List.mem_of_getElem? (i := 8) rfl))) rfl rfl rfl (by decide +kernel) ⟨by rw [← hR]; show (ef + 4 * (d) + 15) + 1 ≤ ef + 4 * d + 16; omega, by rw [← hR]; show 8 + (3 + 11) + (30 * (ef) + 120 * (d) + 630) ≤ 30 * ef + 120 * d + 660; omega⟩) ⟨fun a U g mk q => by obtain ⟨q0, q1, q2, qK, q10, q11, q12, q13, q14, q15⟩ := q; exact ⟨q0, q1, q2, jG.calling g mk a qK, q10, q11, q12, q13, q14, q15⟩, hh.recv (C := RX13) (T := TX13) (N := 50) hB15 rfl (by decide) hg_r0 hK, fun U hU hW => ⟨rfl, hU, hh.2.1, hG.step hW hU hh.1, hg_r0, hg_ak, hg_aw, (hh.2.2.1.sub (L1 := [(r0, 15, 30, .int pk), (r0, 15, 32, .int pa), (r0, 15, 5, .int pn), (r0, 15, 28, .ref ak), (r0, 15, 29, .ref aw)]) [0, 1, 2, 3, 4] rfl), (hh.2.2.2.2.2.2.2.1.sub (L1 := [(ak, 167, n_ak, ca 1, fk), (aw, 157, n_aw, ca 1, fw)]) [0, 1] rfl), by first | omega | (refine ⟨?_, ?_, ?_, ?_, ?_, ?_, ?_, ?_, ?_, ?_⟩ <;> (first | omega | rfl | assumption | decide | exact Or.inl rfl | exact Or.inr rfl | (simp only; omega)))⟩⟩ rfl rfl hl.1 rfl (lv_room (Nat.le_of_ble_eq_true rfl)) dX13_readOr_2 ⟨Nat.zero_le _, Nat.zero_le _⟩) hh.1 (fun q _ h => h) (fun q h => h) (fun r_2 u_1 t_1 H_1 locs_1 ht_1 hvm_1 hr_2 hb_1 hz_1 hk_1 hS_1 => ?_)
  obtain ⟨qa_1, qn_1⟩ := u_1
  rw [ht_1] at hb_1
  obtain ⟨hb_11, hb_12, hb_13, hb_14, hb_15⟩ := hb_1
  have hh_1 : jSt (dC, dI) B base G0 G0 EX13_readOr s.heap 0 0 [(r0, 15, 32, .int qa_1), (r0, 15, 5, .int qn_1), (r0, 15, 30, .int pk), (r0, 15, 28, .ref ak), (r0, 15, 29, .ref aw)] [(ak, 167, n_ak, ca 1, fk), (aw, 157, n_aw, ca 1, fw)] [] H_1 locs_1 := ((hh.call hb_11 hb_12 hb_13 hb_14 hS_1 rfl (L1 := [(r0, 15, 30, .int pk), (r0, 15, 28, .ref ak), (r0, 15, 29, .ref aw)]) [0, 3, 4] rfl rfl (M1 := [(ak, 167, n_ak, ca 1, fk), (aw, 157, n_aw, ca 1, fw)]) [0, 1] rfl rfl (I1 := []) [] rfl rfl).more hb_15)
  clear hh ht_1 hvm_1 hz_1 hk_1 hS_1 hb_11 hb_12 hb_13 hb_14 hb_15
  try simp only at hr_2
  obtain ⟨hr_2_0, hr_2_1, hr_2_2, hr_2_3, hr_2_4, hr_2_5⟩ := hr_2
  refine lv_istore_n (lv' := [(2, .int r_2), (0, .ref r0), (1, .int a1)]) hx hb dX13_readOr_5 rfl hl (by decide) rfl (fun ls hl => ?_)
  refine lv_aload_n hx hb dX13_readOr_6 rfl (lv_at hl 1 rfl) ?_
  obtain ⟨v_3, hv_3, hh_4⟩ := hh_1.pin (C := RX13) (T := TX13) (N := 50) hB15 rfl (by decide) hg_r0 (i := 33) (by decide) rfl
  clear hh_1
  obtain ⟨wrong_5, rfl, hzwrong_5⟩ := hv_3
  have hzwrong_5' := jb_01 hzwrong_5
  refine j7_read hx hb hown hK (C := RX13) (T := TX13) (N := 50) rfl hly_15_33 hlk_181 (hh_4.at 0 rfl) dX13_readOr_7 ?_
  refine lv_if_ne (tgt := 22) hx hb dX13_readOr_10 (by decide) (fun c_6 => ?_) (fun c_6 => ?_)
  · skip
    have c_6' : wrong_5.toInt ≠ 0 := jb_ne (rfl) ((by decide)) c_6
    refine lv_iload_n hx hb dX13_readOr_22 rfl (lv_at hl 0 rfl) ?_
    rw [hQ]
    exact W.iret (v := r_2) hx hb hr (fun t ht hW => ⟨⟨r_2, (qa_1, qn_1), rfl, by first | omega | (refine ⟨?_, ?_, ?_, ?_, ?_, ?_⟩ <;> (first | omega | rfl | assumption | decide | exact Or.inl rfl | exact Or.inr rfl | (simp only; omega))), hh_4.rt (M1 := [(r0, 15, 32, .int qa_1), (r0, 15, 5, .int qn_1)]) [1, 2] rfl ht⟩, by rw [ht]; try exact hh_4.1.1, fun q h9 hq => by rw [ht]; try exact hh_4.1.2.1 q h9 hq⟩) hh_4.1.2.2 dX13_readOr_23
  · skip
    have c_6' : wrong_5.toInt = 0 := jb_ne_n (rfl) ((by decide)) c_6
    refine lv_aload_n hx hb dX13_readOr_13 rfl (lv_at hl 1 rfl) ?_
    refine lv_bipush (v := 43) hx hb dX13_readOr_14 (by decide) ?_
    refine va_calli (A0 := jA base) (H0 := s.heap) (va_runV (As := [.int 43]) (rest := []) ⟨hx, hb, hml, hown, hts⟩ (uX13_is l dC dI ca base B hB hAp hB15 hB157 hB167 G0 H_1 r0 43 pk qa_1 ak n_ak aw n_aw fk fw) (cwV 1 hts (jgV (jWr_62 _ (List.mem_of_getElem? (i := 13) rfl)) (jWr_62 _ (List.mem_of_getElem? (i := 14) rfl)) (jWr_62 _ (List.mem_of_getElem? (i := 15) rfl)) (jWr_12 _ (List.mem_of_getElem? (i := 12) rfl)) (jWr_62 _ (List.mem_of_getElem? (i := 16) rfl))) rfl rfl rfl (by decide +kernel) ⟨by rw [← hR]; show (0) + 1 ≤ ef + 4 * d + 16; omega, by rw [← hR]; show 8 + (2 + 11) + (0) ≤ 30 * ef + 120 * d + 660; omega⟩) ⟨fun a U g mk q => by obtain ⟨q0, q1, q2, qK, q10, q11, q12, q13, q14, q15⟩ := q; exact ⟨q0, q1, q2, jG.calling g mk a qK, q10, q11, q12, q13, q14, q15⟩, hh_4.recv (C := RX13) (T := TX13) (N := 50) hB15 rfl (by decide) hg_r0 hK, fun U hU hW => ⟨rfl, hU, hh_4.2.1, hG.step hW hU hh_4.1, hg_r0, hg_ak, hg_aw, (hh_4.2.2.1.sub (L1 := [(r0, 15, 30, .int pk), (r0, 15, 32, .int qa_1), (r0, 15, 28, .ref ak), (r0, 15, 29, .ref aw)]) [3, 1, 4, 5] rfl), (hh_4.2.2.2.2.2.2.2.1.sub (L1 := [(ak, 167, n_ak, ca 1, fk), (aw, 157, n_aw, ca 1, fw)]) [0, 1] rfl), by first | omega | (refine ⟨?_, ?_, ?_, ?_, ?_, ?_⟩ <;> (first | omega | rfl | assumption | decide | exact Or.inl rfl | exact Or.inr rfl | (simp only; omega)))⟩⟩ rfl rfl hl.1 rfl (lv_room (Nat.le_of_ble_eq_true rfl)) dX13_readOr_16 ⟨Nat.zero_le _, Nat.zero_le _⟩) hh_4.1 (fun q _ h => h) (fun q h => h) (fun r_8 u_7 t_7 H_7 locs_7 ht_7 hvm_7 hr_8 hb_7 hz_7 hk_7 hS_7 => ?_)
    rw [ht_7] at hb_7
    obtain ⟨hb_71, hb_72, hb_73, hb_74, hb_75⟩ := hb_7
    have hh_7 : jSt (dC, dI) B base G0 G0 EX13_readOr s.heap 0 0 [(r0, 15, 33, .int wrong_5), (r0, 15, 32, .int qa_1), (r0, 15, 5, .int qn_1), (r0, 15, 30, .int pk), (r0, 15, 28, .ref ak), (r0, 15, 29, .ref aw)] [(ak, 167, n_ak, ca 1, fk), (aw, 157, n_aw, ca 1, fw)] [] H_7 locs_7 := ((hh_4.call hb_71 hb_72 hb_73 hb_74 hS_7 rfl (L1 := [(r0, 15, 33, .int wrong_5), (r0, 15, 32, .int qa_1), (r0, 15, 5, .int qn_1), (r0, 15, 30, .int pk), (r0, 15, 28, .ref ak), (r0, 15, 29, .ref aw)]) [0, 1, 2, 3, 4, 5] rfl rfl (M1 := [(ak, 167, n_ak, ca 1, fk), (aw, 157, n_aw, ca 1, fw)]) [0, 1] rfl rfl (I1 := []) [] rfl rfl).more hb_75)
    clear hh_4 ht_7 hvm_7 hz_7 hk_7 hS_7 hb_71 hb_72 hb_73 hb_74 hb_75
    obtain ⟨hr_8b, hr_8p⟩ := hr_8
    obtain ⟨hr_8p_0, hr_8p_1⟩ := hr_8p
    have hr_8' := jb_01 hr_8b
    refine lv_if_ne (tgt := 24) hx hb dX13_readOr_19 (by decide) (fun c_9 => ?_) (fun c_9 => ?_)
    · skip
      have c_9' : r_8.toInt ≠ 0 := jb_ne (rfl) ((by decide)) c_9
      refine lv_aload_n hx hb dX13_readOr_24 rfl (lv_at hl 1 rfl) ?_
      refine lv_dup hx hb dX13_readOr_25 rfl ?_
      refine j7_read hx hb hown hK (C := RX13) (T := TX13) (N := 50) rfl hly_15_32 hlk_171 (hh_7.at 1 rfl) dX13_readOr_26 ?_
      refine lv_iconst (v := 1) hx hb dX13_readOr_29 (by decide) ?_
      refine lv_iadd hx hb dX13_readOr_30 ?_
      refine lv_topi (fun z_10 ez_10 => ?_)
      have hz_10 : z_10.toInt = qa_1.toInt + 1 := by rw [ez_10]; exact jb_iadd2 (rfl) ((by decide)) (by omega)
      refine j7_put hx hb hown hK hh_7 hB hAp hB15 (C := RX13) (T := TX13) (N := 50) rfl (by decide) hg_r0 (i := 32) (by decide) hly_15_32 rfl hlk_171 rfl (ty := .int) (v := .int z_10) (by decide +kernel) rfl rfl (⟨_, rfl, by omega, by omega⟩) rfl (L1 := [(r0, 15, 33, .int wrong_5), (r0, 15, 5, .int qn_1), (r0, 15, 30, .int pk), (r0, 15, 28, .ref ak), (r0, 15, 29, .ref aw)]) [0, 2, 3, 4, 5] rfl rfl rfl dX13_readOr_31 (fun H_11 locs_11 hh_11 => ?_)
      clear hh_7
      refine lv_aload_n hx hb dX13_readOr_34 rfl (lv_at hl 1 rfl) ?_
      refine lv_iconst (v := 2) hx hb dX13_readOr_35 (by decide) ?_
      refine lv_iconst (v := 0) hx hb dX13_readOr_36 (by decide) ?_
      refine lv_iload_n hx hb dX13_readOr_37 rfl (lv_at hl 0 rfl) ?_
      refine lv_aload_n hx hb dX13_readOr_38 rfl (lv_at hl 1 rfl) ?_
      refine lv_iload_n hx hb dX13_readOr_39 rfl (lv_at hl 2 rfl) ?_
      refine va_calli (A0 := jA base) (H0 := s.heap) (va_runV (As := [.int a1]) (rest := [.int r_2, .int 0, .int 2, .ref r0]) ⟨hx, hb, hml, hown, hts⟩ (ihO (ef - 1) (by omega) G0 H_11 r0 a1 pk z_10 qn_1 ak n_ak aw n_aw fk fw) (cwV 1 hts (jgV (jWr_63 _ (List.mem_of_getElem? (i := 5) rfl)) (jWr_63 _ (List.mem_of_getElem? (i := 6) rfl)) (jWr_63 _ (List.mem_of_getElem? (i := 7) rfl)) (jWr_12 _ (List.mem_of_getElem? (i := 12) rfl)) (jWr_63 _ (List.mem_of_getElem? (i := 16) rfl))) rfl rfl rfl (by decide +kernel) ⟨by rw [← hR]; show ((ef - 1) + 4 * (d) + 16) + 1 ≤ ef + 4 * d + 16; omega, by rw [← hR]; show 8 + (3 + 11) + (30 * (ef - 1) + 120 * (d) + 660) ≤ 30 * ef + 120 * d + 660; omega⟩) ⟨fun a U g mk q => by obtain ⟨q0, q1, q2, qK, q10, q11, q12, q13, q14, q15⟩ := q; exact ⟨q0, q1, q2, jG.calling g mk a qK, q10, q11, q12, q13, q14, q15⟩, hh_11.recv (C := RX13) (T := TX13) (N := 50) hB15 rfl (by decide) hg_r0 hK, fun U hU hW => ⟨rfl, hU, hh_11.2.1, hG.step hW hU hh_11.1, hg_r0, hg_ak, hg_aw, (hh_11.2.2.1.sub (L1 := [(r0, 15, 30, .int pk), (r0, 15, 32, .int z_10), (r0, 15, 5, .int qn_1), (r0, 15, 28, .ref ak), (r0, 15, 29, .ref aw)]) [3, 0, 2, 4, 5] rfl), (hh_11.2.2.2.2.2.2.2.1.sub (L1 := [(ak, 167, n_ak, ca 1, fk), (aw, 157, n_aw, ca 1, fw)]) [0, 1] rfl), by first | omega | (refine ⟨?_, ?_, ?_, ?_, ?_, ?_, ?_, ?_, ?_, ?_⟩ <;> (first | omega | rfl | assumption | decide | exact Or.inl rfl | exact Or.inr rfl | (simp only; omega)))⟩⟩ rfl rfl hl.1 rfl (lv_room (Nat.le_of_ble_eq_true rfl)) dX13_readOr_40 ⟨Nat.zero_le _, Nat.zero_le _⟩) hh_11.1 (fun q _ h => h) (fun q h => h) (fun r_13 u_12 t_12 H_12 locs_12 ht_12 hvm_12 hr_13 hb_12 hz_12 hk_12 hS_12 => ?_)
      obtain ⟨qa_12, qn_12⟩ := u_12
      rw [ht_12] at hb_12
      obtain ⟨hb_121, hb_122, hb_123, hb_124, hb_125⟩ := hb_12
      have hh_12 : jSt (dC, dI) B base G0 G0 EX13_readOr s.heap 0 0 [(r0, 15, 32, .int qa_12), (r0, 15, 5, .int qn_12), (r0, 15, 30, .int pk), (r0, 15, 28, .ref ak), (r0, 15, 29, .ref aw)] [(ak, 167, n_ak, ca 1, fk), (aw, 157, n_aw, ca 1, fw)] [] H_12 locs_12 := ((hh_11.call hb_121 hb_122 hb_123 hb_124 hS_12 rfl (L1 := [(r0, 15, 30, .int pk), (r0, 15, 28, .ref ak), (r0, 15, 29, .ref aw)]) [3, 4, 5] rfl rfl (M1 := [(ak, 167, n_ak, ca 1, fk), (aw, 157, n_aw, ca 1, fw)]) [0, 1] rfl rfl (I1 := []) [] rfl rfl).more hb_125)
      clear hh_11 ht_12 hvm_12 hz_12 hk_12 hS_12 hb_121 hb_122 hb_123 hb_124 hb_125
      try simp only at hr_13
      obtain ⟨hr_13_0, hr_13_1, hr_13_2, hr_13_3, hr_13_4, hr_13_5⟩ := hr_13
      refine lv_iconst (v := 0) hx hb dX13_readOr_43 (by decide) ?_
      refine va_calli (A0 := jA base) (H0 := s.heap) (va_runV (As := [.int 2, .int 0, .int r_2, .int r_13, .int 0]) (rest := []) ⟨hx, hb, hml, hown, hts⟩ (uX13_node l dC dI ca base B hB hAp hB15 hB150 hB151 hB152 hB153 hB154 G0 H_12 r0 2 0 r_2 r_13 0 qn_12) (cwV 5 hts (jgV (jWr_62 _ (List.mem_of_getElem? (i := 9) rfl)) (jWr_62 _ (List.mem_of_getElem? (i := 10) rfl)) (jWr_62 _ (List.mem_of_getElem? (i := 11) rfl)) (jWr_12 _ (List.mem_of_getElem? (i := 12) rfl)) (jWr_62 _ (List.mem_of_getElem? (i := 12) rfl))) rfl rfl rfl (by decide +kernel) ⟨by rw [← hR]; show (0) + 1 ≤ ef + 4 * d + 16; omega, by rw [← hR]; show 8 + (6 + 11) + (0) ≤ 30 * ef + 120 * d + 660; omega⟩) ⟨fun a U g mk q => by obtain ⟨q0, q1, q2, qK, q10, q11, q12⟩ := q; exact ⟨q0, q1, q2, jG.calling g mk a qK, q10, q11, q12⟩, hh_12.recv (C := RX13) (T := TX13) (N := 50) hB15 rfl (by decide) hg_r0 hK, fun U hU hW => ⟨rfl, hU, hh_12.2.1, hG.step hW hU hh_12.1, hg_r0, (hh_12.2.2.1.sub (L1 := [(r0, 15, 5, .int qn_12)]) [1] rfl), by first | omega | (refine ⟨?_, ?_⟩ <;> (first | omega | rfl | assumption | decide | exact Or.inl rfl | exact Or.inr rfl | (simp only; omega)))⟩⟩ rfl rfl hl.1 rfl (lv_room (Nat.le_of_ble_eq_true rfl)) dX13_readOr_44 ⟨Nat.zero_le _, Nat.zero_le _⟩) hh_12.1 (fun q _ h => h) (fun q h => h) (fun r_15 u_14 t_14 H_14 locs_14 ht_14 hvm_14 hr_15 hb_14 hz_14 hk_14 hS_14 => ?_)
      obtain ⟨qn_14, rfl⟩ : ∃ z, z = u_14 := ⟨_, rfl⟩
      rw [ht_14] at hb_14
      obtain ⟨hb_141, hb_142, hb_143, hb_144, hb_145⟩ := hb_14
      have hh_14 : jSt (dC, dI) B base G0 G0 EX13_readOr s.heap 0 0 [(r0, 15, 5, .int qn_14), (r0, 15, 32, .int qa_12), (r0, 15, 30, .int pk), (r0, 15, 28, .ref ak), (r0, 15, 29, .ref aw)] [(ak, 167, n_ak, ca 1, fk), (aw, 157, n_aw, ca 1, fw)] [] H_14 locs_14 := ((hh_12.call hb_141 hb_142 hb_143 hb_144 hS_14 rfl (L1 := [(r0, 15, 32, .int qa_12), (r0, 15, 30, .int pk), (r0, 15, 28, .ref ak), (r0, 15, 29, .ref aw)]) [0, 2, 3, 4] rfl rfl (M1 := [(ak, 167, n_ak, ca 1, fk), (aw, 157, n_aw, ca 1, fw)]) [0, 1] rfl rfl (I1 := []) [] rfl rfl).more hb_145)
      clear hh_12 ht_14 hvm_14 hz_14 hk_14 hS_14 hb_141 hb_142 hb_143 hb_144 hb_145
      obtain ⟨hr_15_0, hr_15_1⟩ := hr_15
      rw [hQ]
      exact W.iret (v := r_15) hx hb hr (fun t ht hW => ⟨⟨r_15, (qa_12, qn_14), rfl, by first | omega | (refine ⟨?_, ?_, ?_, ?_, ?_, ?_⟩ <;> (first | omega | rfl | assumption | decide | exact Or.inl rfl | exact Or.inr rfl | (simp only; omega))), hh_14.rt (M1 := [(r0, 15, 32, .int qa_12), (r0, 15, 5, .int qn_14)]) [1, 0] rfl ht⟩, by rw [ht]; try exact hh_14.1.1, fun q h9 hq => by rw [ht]; try exact hh_14.1.2.1 q h9 hq⟩) hh_14.1.2.2 dX13_readOr_47
    · skip
      have c_9' : r_8.toInt = 0 := jb_ne_n (rfl) ((by decide)) c_9
      refine lv_iload_n hx hb dX13_readOr_22 rfl (lv_at hl 0 rfl) ?_
      rw [hQ]
      exact W.iret (v := r_2) hx hb hr (fun t ht hW => ⟨⟨r_2, (qa_1, qn_1), rfl, by first | omega | (refine ⟨?_, ?_, ?_, ?_, ?_, ?_⟩ <;> (first | omega | rfl | assumption | decide | exact Or.inl rfl | exact Or.inr rfl | (simp only; omega))), hh_7.rt (M1 := [(r0, 15, 32, .int qa_1), (r0, 15, 5, .int qn_1)]) [1, 2] rfl ht⟩, by rw [ht]; try exact hh_7.1.1, fun q h9 hq => by rw [ht]; try exact hh_7.1.2.1 q h9 hq⟩) hh_7.1.2.2 dX13_readOr_23
set_option maxHeartbeats 4000000 in
set_option maxRecDepth 20000 in
theorem uX13_readImp (l : Launch) (dC : Nat → ClassId) (dI : Nat → Nat → Nat) (ca : Nat → ClassId) (base : Nat) (B : jF) (hB : jBok B) (hAp : jAp (dC, dI)) (hB15 : ∀ n G a H, B 15 n G a H ↔ jOb (dC, dI) 15 50 (F15 n G) a H) (hB150 : ∀ n G a H, B 150 n G a H ↔ jAr (dC, dI) (ca 1) (fun j z => True) n a H) (hB151 : ∀ n G a H, B 151 n G a H ↔ jAr (dC, dI) (ca 1) (fun j z => True) n a H) (hB152 : ∀ n G a H, B 152 n G a H ↔ jAr (dC, dI) (ca 1) (fun j z => True) n a H) (hB153 : ∀ n G a H, B 153 n G a H ↔ jAr (dC, dI) (ca 1) (fun j z => True) n a H) (hB154 : ∀ n G a H, B 154 n G a H ↔ jAr (dC, dI) (ca 1) (fun j z => True) n a H) (hB155 : ∀ n G a H, B 155 n G a H ↔ jAr (dC, dI) (ca 1) (fun j z => 0 ≤ z.toInt ∧ z.toInt ≤ 11990) n a H) (hB156 : ∀ n G a H, B 156 n G a H ↔ jAr (dC, dI) (ca 1) (fun j z => 0 ≤ z.toInt ∧ z.toInt ≤ 10) n a H) (hB157 : ∀ n G a H, B 157 n G a H ↔ jAr (dC, dI) (ca 1) (fun j z => 0 ≤ z.toInt ∧ z.toInt ≤ 1599) n a H) (hB166 : ∀ n G a H, B 166 n G a H ↔ jAr (dC, dI) (ca 1) (fun j z => True) n a H) (hB167 : ∀ n G a H, B 167 n G a H ↔ jAr (dC, dI) (ca 1) (fun j z => True) n a H) (ef : Nat) (d : Nat) (hO : qX13_readOr l dC dI ca base B ef d) (ihI : ∀ e1, e1 < ef → qX13_readImp l dC dI ca base B e1 d) (G0 : jT) (H0 : Heap) (r0 : Nat) (a1 : Int32) (pk : Int32) (pa : Int32) (pn : Int32) (ak : Nat) (n_ak : Nat) (aw : Nat) (n_aw : Nat) (fk : Nat → Int32) (fw : Nat → Int32) : Met l yX13_readImp (jw yX13_readImp cX13_readImp 3 (some .int)) ({ frames := ef + 4 * d + 17, cells := 0, slots := 0, locals := 30 * ef + 120 * d + 690 }) (va_Pc [.ref r0, .int a1] (fun U => U.heap = H0 ∧ jX B base G0 [] H0 ∧ jG dC dI ca base U ∧ G0 r0 = some (15, 0) ∧ G0 ak = some (167, n_ak) ∧ G0 aw = some (157, n_aw) ∧ jP (dC, dI) G0 H0 [(r0, 15, 30, .int pk), (r0, 15, 32, .int pa), (r0, 15, 5, .int pn), (r0, 15, 28, .ref ak), (r0, 15, 29, .ref aw)] ∧ jMc (dC, dI) G0 H0 [(ak, 167, n_ak, ca 1, fk), (aw, 157, n_aw, ca 1, fw)] ∧ 0 ≤ pa.toInt ∧ pa.toInt ≤ pk.toInt ∧ pk.toInt ≤ 1500 ∧ 0 ≤ pn.toInt ∧ pn.toInt + 4 * (pk.toInt - pa.toInt) ≤ 119980 ∧ a1.toInt = 12 - d ∧ d ≤ 12 ∧ n_ak = 1500 ∧ n_aw = 1500 ∧ pk.toInt - pa.toInt ≤ ef)) (va_Qi (S := Int32 × Int32) (fun r u => (0 ≤ r.toInt ∧ r.toInt ≤ 119999 ∧ pa.toInt ≤ u.1.toInt ∧ u.1.toInt ≤ pk.toInt ∧ pn.toInt ≤ u.2.toInt ∧ u.2.toInt ≤ pn.toInt + 4 * (u.1.toInt - pa.toInt) + 3)) (fun u t => jRt (dC, dI) B base G0 EX13_readImp H0 [(r0, 15, 32, .int u.1), (r0, 15, 5, .int u.2)] t.heap) (jA base)) 0 0 (jA base) := by
  refine Met.ofW (cc := cX13_readImp) (maxL := 3) (ret := (some .int)) (by decide) rfl ?_
  intro p e s m args below meth c s₁ Bd hml hv
  obtain ⟨rfl, hH0, hX, hG, hg_r0, hg_ak, hg_aw, hP0, hM0, hp0, hp1, hp2, hp3, hp4, hp5, hp6, hp7, hp8, hp9⟩ := hv
  have hK := hG.1
  have hx := Bd.exec
  have hb := Bd.bytes
  have hr := Bd.returns
  have hts := atoms_spec (ws := (jw yX13_readImp cX13_readImp 3 (some .int))) Bd.pre
  have htw : ∀ w ∈ jWl, w.before _ s = true := fun w h => hts w (List.mem_cons_of_mem _ h)
  have hown : s.vm.findClass RX13 = some m.cls := findClass_of_methodNamed Bd.named
  have hlocks := Bd.notSynchronized
  obtain ⟨Q, hQ⟩ : ∃ Q, Q = MQ below (va_Qi (S := Int32 × Int32) (fun r u => (0 ≤ r.toInt ∧ r.toInt ≤ 119999 ∧ pa.toInt ≤ u.1.toInt ∧ u.1.toInt ≤ pk.toInt ∧ pn.toInt ≤ u.2.toInt ∧ u.2.toInt ≤ pn.toInt + 4 * (u.1.toInt - pa.toInt) + 3)) (fun u t => jRt (dC, dI) B base G0 EX13_readImp H0 [(r0, 15, 32, .int u.1), (r0, 15, 5, .int u.2)] t.heap) (jA base)) ([.ref r0, .int a1] : List Value).toArray s 0 0 (jA base) := ⟨_, rfl⟩
  rw [← hQ]
  have hl := lv_entry ([.ref r0, .int a1]) (n := 3) (Nat.le_of_ble_eq_true rfl)
  rw [lg_entry_eq]
  generalize (lg_sl ([.ref r0, .int a1]) ++ List.replicate (3 - (lg_sl ([.ref r0, .int a1])).length) Slot.unset).toArray = ls at hl ⊢
  have hl : lv_has ls 3 [(0, .ref r0), (1, .int a1)] := hl
  generalize hR : (headSpec (jw yX13_readImp cX13_readImp 3 (some .int)) ({ frames := ef + 4 * d + 17, cells := 0, slots := 0, locals := 30 * ef + 120 * d + 690 })).room = R
  subst hH0
  have hh : jSt (dC, dI) B base G0 G0 EX13_readImp s.heap 0 0 [(r0, 15, 30, .int pk), (r0, 15, 32, .int pa), (r0, 15, 5, .int pn), (r0, 15, 28, .ref ak), (r0, 15, 29, .ref aw)] [(ak, 167, n_ak, ca 1, fk), (aw, 157, n_aw, ca 1, fw)] [] s.heap [] := jSt.start hX hP0 hM0 jIs.nil
  clear hX hP0
  have hk0 : (0 : Int32).toInt = 0 := by decide
  have hk1 : (1 : Int32).toInt = 1 := by decide
  have hk62 : (62 : Int32).toInt = 62 := by decide
  have hly_15_32 := htw (u_lay RX13 TX13 32) (jWc_wsX130 _ (u_in_lay (by decide)))
  have hly_15_33 := htw (u_lay RX13 TX13 33) (jWc_wsX130 _ (u_in_lay (by decide)))
  have hlk_181 := (htw (.fieldLink RX13 181 "ProofServerModel$Kernel" "wrong" "Z") (jWr_60 _ (List.mem_of_getElem? (i := 2) rfl)))
  have hlk_171 := (htw (.fieldLink RX13 171 "ProofServerModel$Kernel" "at" "I") (jWr_61 _ (List.mem_of_getElem? (i := 11) rfl)))
  have hrg_a1 := jb_rng a1
  refine lv_aload_n hx hb dX13_readImp_0 rfl (lv_at hl 0 rfl) ?_
  refine lv_iload_n hx hb dX13_readImp_1 rfl (lv_at hl 1 rfl) ?_
  refine va_calli (A0 := jA base) (H0 := s.heap) (va_runV (As := [.int a1]) (rest := []) ⟨hx, hb, hml, hown, hts⟩ (hO G0 s.heap r0 a1 pk pa pn ak n_ak aw n_aw fk fw) (cwV 1 hts (jgV (jWr_63 _ (List.mem_of_getElem? (i := 5) rfl)) (jWr_63 _ (List.mem_of_getElem? (i := 6) rfl)) (jWr_63 _ (List.mem_of_getElem? (i := 7) rfl)) (jWr_12 _ (List.mem_of_getElem? (i := 12) rfl)) (jWr_63 _ (List.mem_of_getElem? (i := 16) rfl))) rfl rfl rfl (by decide +kernel) ⟨by rw [← hR]; show (ef + 4 * (d) + 16) + 1 ≤ ef + 4 * d + 17; omega, by rw [← hR]; show 8 + (3 + 11) + (30 * (ef) + 120 * (d) + 660) ≤ 30 * ef + 120 * d + 690; omega⟩) ⟨fun a U g mk q => by obtain ⟨q0, q1, q2, qK, q10, q11, q12, q13, q14, q15⟩ := q; exact ⟨q0, q1, q2, jG.calling g mk a qK, q10, q11, q12, q13, q14, q15⟩, hh.recv (C := RX13) (T := TX13) (N := 50) hB15 rfl (by decide) hg_r0 hK, fun U hU hW => ⟨rfl, hU, hh.2.1, hG.step hW hU hh.1, hg_r0, hg_ak, hg_aw, (hh.2.2.1.sub (L1 := [(r0, 15, 30, .int pk), (r0, 15, 32, .int pa), (r0, 15, 5, .int pn), (r0, 15, 28, .ref ak), (r0, 15, 29, .ref aw)]) [0, 1, 2, 3, 4] rfl), (hh.2.2.2.2.2.2.2.1.sub (L1 := [(ak, 167, n_ak, ca 1, fk), (aw, 157, n_aw, ca 1, fw)]) [0, 1] rfl), by first | omega | (refine ⟨?_, ?_, ?_, ?_, ?_, ?_, ?_, ?_, ?_, ?_⟩ <;> (first | omega | rfl | assumption | decide | exact Or.inl rfl | exact Or.inr rfl | (simp only; omega)))⟩⟩ rfl rfl hl.1 rfl (lv_room (Nat.le_of_ble_eq_true rfl)) dX13_readImp_2 ⟨Nat.zero_le _, Nat.zero_le _⟩) hh.1 (fun q _ h => h) (fun q h => h) (fun r_2 u_1 t_1 H_1 locs_1 ht_1 hvm_1 hr_2 hb_1 hz_1 hk_1 hS_1 => ?_)
  obtain ⟨qa_1, qn_1⟩ := u_1
  rw [ht_1] at hb_1
  obtain ⟨hb_11, hb_12, hb_13, hb_14, hb_15⟩ := hb_1
  have hh_1 : jSt (dC, dI) B base G0 G0 EX13_readImp s.heap 0 0 [(r0, 15, 32, .int qa_1), (r0, 15, 5, .int qn_1), (r0, 15, 30, .int pk), (r0, 15, 28, .ref ak), (r0, 15, 29, .ref aw)] [(ak, 167, n_ak, ca 1, fk), (aw, 157, n_aw, ca 1, fw)] [] H_1 locs_1 := ((hh.call hb_11 hb_12 hb_13 hb_14 hS_1 rfl (L1 := [(r0, 15, 30, .int pk), (r0, 15, 28, .ref ak), (r0, 15, 29, .ref aw)]) [0, 3, 4] rfl rfl (M1 := [(ak, 167, n_ak, ca 1, fk), (aw, 157, n_aw, ca 1, fw)]) [0, 1] rfl rfl (I1 := []) [] rfl rfl).more hb_15)
  clear hh ht_1 hvm_1 hz_1 hk_1 hS_1 hb_11 hb_12 hb_13 hb_14 hb_15
  try simp only at hr_2
  obtain ⟨hr_2_0, hr_2_1, hr_2_2, hr_2_3, hr_2_4, hr_2_5⟩ := hr_2
  refine lv_istore_n (lv' := [(2, .int r_2), (0, .ref r0), (1, .int a1)]) hx hb dX13_readImp_5 rfl hl (by decide) rfl (fun ls hl => ?_)
  refine lv_aload_n hx hb dX13_readImp_6 rfl (lv_at hl 1 rfl) ?_
  obtain ⟨v_3, hv_3, hh_4⟩ := hh_1.pin (C := RX13) (T := TX13) (N := 50) hB15 rfl (by decide) hg_r0 (i := 33) (by decide) rfl
  clear hh_1
  obtain ⟨wrong_5, rfl, hzwrong_5⟩ := hv_3
  have hzwrong_5' := jb_01 hzwrong_5
  refine j7_read hx hb hown hK (C := RX13) (T := TX13) (N := 50) rfl hly_15_33 hlk_181 (hh_4.at 0 rfl) dX13_readImp_7 ?_
  refine lv_if_ne (tgt := 22) hx hb dX13_readImp_10 (by decide) (fun c_6 => ?_) (fun c_6 => ?_)
  · skip
    have c_6' : wrong_5.toInt ≠ 0 := jb_ne (rfl) ((by decide)) c_6
    refine lv_iload_n hx hb dX13_readImp_22 rfl (lv_at hl 0 rfl) ?_
    rw [hQ]
    exact W.iret (v := r_2) hx hb hr (fun t ht hW => ⟨⟨r_2, (qa_1, qn_1), rfl, by first | omega | (refine ⟨?_, ?_, ?_, ?_, ?_, ?_⟩ <;> (first | omega | rfl | assumption | decide | exact Or.inl rfl | exact Or.inr rfl | (simp only; omega))), hh_4.rt (M1 := [(r0, 15, 32, .int qa_1), (r0, 15, 5, .int qn_1)]) [1, 2] rfl ht⟩, by rw [ht]; try exact hh_4.1.1, fun q h9 hq => by rw [ht]; try exact hh_4.1.2.1 q h9 hq⟩) hh_4.1.2.2 dX13_readImp_23
  · skip
    have c_6' : wrong_5.toInt = 0 := jb_ne_n (rfl) ((by decide)) c_6
    refine lv_aload_n hx hb dX13_readImp_13 rfl (lv_at hl 1 rfl) ?_
    refine lv_bipush (v := 62) hx hb dX13_readImp_14 (by decide) ?_
    refine va_calli (A0 := jA base) (H0 := s.heap) (va_runV (As := [.int 62]) (rest := []) ⟨hx, hb, hml, hown, hts⟩ (uX13_is l dC dI ca base B hB hAp hB15 hB157 hB167 G0 H_1 r0 62 pk qa_1 ak n_ak aw n_aw fk fw) (cwV 1 hts (jgV (jWr_62 _ (List.mem_of_getElem? (i := 13) rfl)) (jWr_62 _ (List.mem_of_getElem? (i := 14) rfl)) (jWr_62 _ (List.mem_of_getElem? (i := 15) rfl)) (jWr_12 _ (List.mem_of_getElem? (i := 12) rfl)) (jWr_62 _ (List.mem_of_getElem? (i := 16) rfl))) rfl rfl rfl (by decide +kernel) ⟨by rw [← hR]; show (0) + 1 ≤ ef + 4 * d + 17; omega, by rw [← hR]; show 8 + (2 + 11) + (0) ≤ 30 * ef + 120 * d + 690; omega⟩) ⟨fun a U g mk q => by obtain ⟨q0, q1, q2, qK, q10, q11, q12, q13, q14, q15⟩ := q; exact ⟨q0, q1, q2, jG.calling g mk a qK, q10, q11, q12, q13, q14, q15⟩, hh_4.recv (C := RX13) (T := TX13) (N := 50) hB15 rfl (by decide) hg_r0 hK, fun U hU hW => ⟨rfl, hU, hh_4.2.1, hG.step hW hU hh_4.1, hg_r0, hg_ak, hg_aw, (hh_4.2.2.1.sub (L1 := [(r0, 15, 30, .int pk), (r0, 15, 32, .int qa_1), (r0, 15, 28, .ref ak), (r0, 15, 29, .ref aw)]) [3, 1, 4, 5] rfl), (hh_4.2.2.2.2.2.2.2.1.sub (L1 := [(ak, 167, n_ak, ca 1, fk), (aw, 157, n_aw, ca 1, fw)]) [0, 1] rfl), by first | omega | (refine ⟨?_, ?_, ?_, ?_, ?_, ?_⟩ <;> (first | omega | rfl | assumption | decide | exact Or.inl rfl | exact Or.inr rfl | (simp only; omega)))⟩⟩ rfl rfl hl.1 rfl (lv_room (Nat.le_of_ble_eq_true rfl)) dX13_readImp_16 ⟨Nat.zero_le _, Nat.zero_le _⟩) hh_4.1 (fun q _ h => h) (fun q h => h) (fun r_8 u_7 t_7 H_7 locs_7 ht_7 hvm_7 hr_8 hb_7 hz_7 hk_7 hS_7 => ?_)
    rw [ht_7] at hb_7
    obtain ⟨hb_71, hb_72, hb_73, hb_74, hb_75⟩ := hb_7
    have hh_7 : jSt (dC, dI) B base G0 G0 EX13_readImp s.heap 0 0 [(r0, 15, 33, .int wrong_5), (r0, 15, 32, .int qa_1), (r0, 15, 5, .int qn_1), (r0, 15, 30, .int pk), (r0, 15, 28, .ref ak), (r0, 15, 29, .ref aw)] [(ak, 167, n_ak, ca 1, fk), (aw, 157, n_aw, ca 1, fw)] [] H_7 locs_7 := ((hh_4.call hb_71 hb_72 hb_73 hb_74 hS_7 rfl (L1 := [(r0, 15, 33, .int wrong_5), (r0, 15, 32, .int qa_1), (r0, 15, 5, .int qn_1), (r0, 15, 30, .int pk), (r0, 15, 28, .ref ak), (r0, 15, 29, .ref aw)]) [0, 1, 2, 3, 4, 5] rfl rfl (M1 := [(ak, 167, n_ak, ca 1, fk), (aw, 157, n_aw, ca 1, fw)]) [0, 1] rfl rfl (I1 := []) [] rfl rfl).more hb_75)
    clear hh_4 ht_7 hvm_7 hz_7 hk_7 hS_7 hb_71 hb_72 hb_73 hb_74 hb_75
    obtain ⟨hr_8b, hr_8p⟩ := hr_8
    obtain ⟨hr_8p_0, hr_8p_1⟩ := hr_8p
    have hr_8' := jb_01 hr_8b
    refine lv_if_ne (tgt := 24) hx hb dX13_readImp_19 (by decide) (fun c_9 => ?_) (fun c_9 => ?_)
    · skip
      have c_9' : r_8.toInt ≠ 0 := jb_ne (rfl) ((by decide)) c_9
      refine lv_aload_n hx hb dX13_readImp_24 rfl (lv_at hl 1 rfl) ?_
      refine lv_dup hx hb dX13_readImp_25 rfl ?_
      refine j7_read hx hb hown hK (C := RX13) (T := TX13) (N := 50) rfl hly_15_32 hlk_171 (hh_7.at 1 rfl) dX13_readImp_26 ?_
      refine lv_iconst (v := 1) hx hb dX13_readImp_29 (by decide) ?_
      refine lv_iadd hx hb dX13_readImp_30 ?_
      refine lv_topi (fun z_10 ez_10 => ?_)
      have hz_10 : z_10.toInt = qa_1.toInt + 1 := by rw [ez_10]; exact jb_iadd2 (rfl) ((by decide)) (by omega)
      refine j7_put hx hb hown hK hh_7 hB hAp hB15 (C := RX13) (T := TX13) (N := 50) rfl (by decide) hg_r0 (i := 32) (by decide) hly_15_32 rfl hlk_171 rfl (ty := .int) (v := .int z_10) (by decide +kernel) rfl rfl (⟨_, rfl, by omega, by omega⟩) rfl (L1 := [(r0, 15, 33, .int wrong_5), (r0, 15, 5, .int qn_1), (r0, 15, 30, .int pk), (r0, 15, 28, .ref ak), (r0, 15, 29, .ref aw)]) [0, 2, 3, 4, 5] rfl rfl rfl dX13_readImp_31 (fun H_11 locs_11 hh_11 => ?_)
      clear hh_7
      refine lv_aload_n hx hb dX13_readImp_34 rfl (lv_at hl 1 rfl) ?_
      refine lv_iconst (v := 0) hx hb dX13_readImp_35 (by decide) ?_
      refine lv_iconst (v := 0) hx hb dX13_readImp_36 (by decide) ?_
      refine lv_iload_n hx hb dX13_readImp_37 rfl (lv_at hl 0 rfl) ?_
      refine lv_aload_n hx hb dX13_readImp_38 rfl (lv_at hl 1 rfl) ?_
      refine lv_iload_n hx hb dX13_readImp_39 rfl (lv_at hl 2 rfl) ?_
      refine va_calli (A0 := jA base) (H0 := s.heap) (va_runV (As := [.int a1]) (rest := [.int r_2, .int 0, .int 0, .ref r0]) ⟨hx, hb, hml, hown, hts⟩ (ihI (ef - 1) (by omega) G0 H_11 r0 a1 pk z_10 qn_1 ak n_ak aw n_aw fk fw) (cwV 1 hts (jgV (jWr_63 _ (List.mem_of_getElem? (i := 1) rfl)) (jWr_63 _ (List.mem_of_getElem? (i := 2) rfl)) (jWr_63 _ (List.mem_of_getElem? (i := 3) rfl)) (jWr_12 _ (List.mem_of_getElem? (i := 12) rfl)) (jWr_63 _ (List.mem_of_getElem? (i := 4) rfl))) rfl rfl rfl (by decide +kernel) ⟨by rw [← hR]; show ((ef - 1) + 4 * (d) + 17) + 1 ≤ ef + 4 * d + 17; omega, by rw [← hR]; show 8 + (3 + 11) + (30 * (ef - 1) + 120 * (d) + 690) ≤ 30 * ef + 120 * d + 690; omega⟩) ⟨fun a U g mk q => by obtain ⟨q0, q1, q2, qK, q10, q11, q12, q13, q14, q15⟩ := q; exact ⟨q0, q1, q2, jG.calling g mk a qK, q10, q11, q12, q13, q14, q15⟩, hh_11.recv (C := RX13) (T := TX13) (N := 50) hB15 rfl (by decide) hg_r0 hK, fun U hU hW => ⟨rfl, hU, hh_11.2.1, hG.step hW hU hh_11.1, hg_r0, hg_ak, hg_aw, (hh_11.2.2.1.sub (L1 := [(r0, 15, 30, .int pk), (r0, 15, 32, .int z_10), (r0, 15, 5, .int qn_1), (r0, 15, 28, .ref ak), (r0, 15, 29, .ref aw)]) [3, 0, 2, 4, 5] rfl), (hh_11.2.2.2.2.2.2.2.1.sub (L1 := [(ak, 167, n_ak, ca 1, fk), (aw, 157, n_aw, ca 1, fw)]) [0, 1] rfl), by first | omega | (refine ⟨?_, ?_, ?_, ?_, ?_, ?_, ?_, ?_, ?_, ?_⟩ <;> (first | omega | rfl | assumption | decide | exact Or.inl rfl | exact Or.inr rfl | (simp only; omega)))⟩⟩ rfl rfl hl.1 rfl (lv_room (Nat.le_of_ble_eq_true rfl)) dX13_readImp_40 ⟨Nat.zero_le _, Nat.zero_le _⟩) hh_11.1 (fun q _ h => h) (fun q h => h) (fun r_13 u_12 t_12 H_12 locs_12 ht_12 hvm_12 hr_13 hb_12 hz_12 hk_12 hS_12 => ?_)
      obtain ⟨qa_12, qn_12⟩ := u_12
      rw [ht_12] at hb_12
      obtain ⟨hb_121, hb_122, hb_123, hb_124, hb_125⟩ := hb_12
      have hh_12 : jSt (dC, dI) B base G0 G0 EX13_readImp s.heap 0 0 [(r0, 15, 32, .int qa_12), (r0, 15, 5, .int qn_12), (r0, 15, 30, .int pk), (r0, 15, 28, .ref ak), (r0, 15, 29, .ref aw)] [(ak, 167, n_ak, ca 1, fk), (aw, 157, n_aw, ca 1, fw)] [] H_12 locs_12 := ((hh_11.call hb_121 hb_122 hb_123 hb_124 hS_12 rfl (L1 := [(r0, 15, 30, .int pk), (r0, 15, 28, .ref ak), (r0, 15, 29, .ref aw)]) [3, 4, 5] rfl rfl (M1 := [(ak, 167, n_ak, ca 1, fk), (aw, 157, n_aw, ca 1, fw)]) [0, 1] rfl rfl (I1 := []) [] rfl rfl).more hb_125)
      clear hh_11 ht_12 hvm_12 hz_12 hk_12 hS_12 hb_121 hb_122 hb_123 hb_124 hb_125
      try simp only at hr_13
      obtain ⟨hr_13_0, hr_13_1, hr_13_2, hr_13_3, hr_13_4, hr_13_5⟩ := hr_13
      refine lv_iconst (v := 0) hx hb dX13_readImp_43 (by decide) ?_
      refine va_calli (A0 := jA base) (H0 := s.heap) (va_runV (As := [.int 0, .int 0, .int r_2, .int r_13, .int 0]) (rest := []) ⟨hx, hb, hml, hown, hts⟩ (uX13_node l dC dI ca base B hB hAp hB15 hB150 hB151 hB152 hB153 hB154 G0 H_12 r0 0 0 r_2 r_13 0 qn_12) (cwV 5 hts (jgV (jWr_62 _ (List.mem_of_getElem? (i := 9) rfl)) (jWr_62 _ (List.mem_of_getElem? (i := 10) rfl)) (jWr_62 _ (List.mem_of_getElem? (i := 11) rfl)) (jWr_12 _ (List.mem_of_getElem? (i := 12) rfl)) (jWr_62 _ (List.mem_of_getElem? (i := 12) rfl))) rfl rfl rfl (by decide +kernel) ⟨by rw [← hR]; show (0) + 1 ≤ ef + 4 * d + 17; omega, by rw [← hR]; show 8 + (6 + 11) + (0) ≤ 30 * ef + 120 * d + 690; omega⟩) ⟨fun a U g mk q => by obtain ⟨q0, q1, q2, qK, q10, q11, q12⟩ := q; exact ⟨q0, q1, q2, jG.calling g mk a qK, q10, q11, q12⟩, hh_12.recv (C := RX13) (T := TX13) (N := 50) hB15 rfl (by decide) hg_r0 hK, fun U hU hW => ⟨rfl, hU, hh_12.2.1, hG.step hW hU hh_12.1, hg_r0, (hh_12.2.2.1.sub (L1 := [(r0, 15, 5, .int qn_12)]) [1] rfl), by first | omega | (refine ⟨?_, ?_⟩ <;> (first | omega | rfl | assumption | decide | exact Or.inl rfl | exact Or.inr rfl | (simp only; omega)))⟩⟩ rfl rfl hl.1 rfl (lv_room (Nat.le_of_ble_eq_true rfl)) dX13_readImp_44 ⟨Nat.zero_le _, Nat.zero_le _⟩) hh_12.1 (fun q _ h => h) (fun q h => h) (fun r_15 u_14 t_14 H_14 locs_14 ht_14 hvm_14 hr_15 hb_14 hz_14 hk_14 hS_14 => ?_)
      obtain ⟨qn_14, rfl⟩ : ∃ z, z = u_14 := ⟨_, rfl⟩
      rw [ht_14] at hb_14
      obtain ⟨hb_141, hb_142, hb_143, hb_144, hb_145⟩ := hb_14
      have hh_14 : jSt (dC, dI) B base G0 G0 EX13_readImp s.heap 0 0 [(r0, 15, 5, .int qn_14), (r0, 15, 32, .int qa_12), (r0, 15, 30, .int pk), (r0, 15, 28, .ref ak), (r0, 15, 29, .ref aw)] [(ak, 167, n_ak, ca 1, fk), (aw, 157, n_aw, ca 1, fw)] [] H_14 locs_14 := ((hh_12.call hb_141 hb_142 hb_143 hb_144 hS_14 rfl (L1 := [(r0, 15, 32, .int qa_12), (r0, 15, 30, .int pk), (r0, 15, 28, .ref ak), (r0, 15, 29, .ref aw)]) [0, 2, 3, 4] rfl rfl (M1 := [(ak, 167, n_ak, ca 1, fk), (aw, 157, n_aw, ca 1, fw)]) [0, 1] rfl rfl (I1 := []) [] rfl rfl).more hb_145)
      clear hh_12 ht_14 hvm_14 hz_14 hk_14 hS_14 hb_141 hb_142 hb_143 hb_144 hb_145
      obtain ⟨hr_15_0, hr_15_1⟩ := hr_15
      rw [hQ]
      exact W.iret (v := r_15) hx hb hr (fun t ht hW => ⟨⟨r_15, (qa_12, qn_14), rfl, by first | omega | (refine ⟨?_, ?_, ?_, ?_, ?_, ?_⟩ <;> (first | omega | rfl | assumption | decide | exact Or.inl rfl | exact Or.inr rfl | (simp only; omega))), hh_14.rt (M1 := [(r0, 15, 32, .int qa_12), (r0, 15, 5, .int qn_14)]) [1, 0] rfl ht⟩, by rw [ht]; try exact hh_14.1.1, fun q h9 hq => by rw [ht]; try exact hh_14.1.2.1 q h9 hq⟩) hh_14.1.2.2 dX13_readImp_47
    · skip
      have c_9' : r_8.toInt = 0 := jb_ne_n (rfl) ((by decide)) c_9
      refine lv_iload_n hx hb dX13_readImp_22 rfl (lv_at hl 0 rfl) ?_
      rw [hQ]
      exact W.iret (v := r_2) hx hb hr (fun t ht hW => ⟨⟨r_2, (qa_1, qn_1), rfl, by first | omega | (refine ⟨?_, ?_, ?_, ?_, ?_, ?_⟩ <;> (first | omega | rfl | assumption | decide | exact Or.inl rfl | exact Or.inr rfl | (simp only; omega))), hh_7.rt (M1 := [(r0, 15, 32, .int qa_1), (r0, 15, 5, .int qn_1)]) [1, 2] rfl ht⟩, by rw [ht]; try exact hh_7.1.1, fun q h9 hq => by rw [ht]; try exact hh_7.1.2.1 q h9 hq⟩) hh_7.1.2.2 dX13_readImp_23
theorem aX13_readImp (l : Launch) (dC : Nat → ClassId) (dI : Nat → Nat → Nat) (ca : Nat → ClassId) (base : Nat) (B : jF) (hB : jBok B) (hAp : jAp (dC, dI)) (hB15 : ∀ n G a H, B 15 n G a H ↔ jOb (dC, dI) 15 50 (F15 n G) a H) (hB150 : ∀ n G a H, B 150 n G a H ↔ jAr (dC, dI) (ca 1) (fun j z => True) n a H) (hB151 : ∀ n G a H, B 151 n G a H ↔ jAr (dC, dI) (ca 1) (fun j z => True) n a H) (hB152 : ∀ n G a H, B 152 n G a H ↔ jAr (dC, dI) (ca 1) (fun j z => True) n a H) (hB153 : ∀ n G a H, B 153 n G a H ↔ jAr (dC, dI) (ca 1) (fun j z => True) n a H) (hB154 : ∀ n G a H, B 154 n G a H ↔ jAr (dC, dI) (ca 1) (fun j z => True) n a H) (hB155 : ∀ n G a H, B 155 n G a H ↔ jAr (dC, dI) (ca 1) (fun j z => 0 ≤ z.toInt ∧ z.toInt ≤ 11990) n a H) (hB156 : ∀ n G a H, B 156 n G a H ↔ jAr (dC, dI) (ca 1) (fun j z => 0 ≤ z.toInt ∧ z.toInt ≤ 10) n a H) (hB157 : ∀ n G a H, B 157 n G a H ↔ jAr (dC, dI) (ca 1) (fun j z => 0 ≤ z.toInt ∧ z.toInt ≤ 1599) n a H) (hB166 : ∀ n G a H, B 166 n G a H ↔ jAr (dC, dI) (ca 1) (fun j z => True) n a H) (hB167 : ∀ n G a H, B 167 n G a H ↔ jAr (dC, dI) (ca 1) (fun j z => True) n a H) : ∀ ef, ∀ d, qX13_readOne l dC dI ca base B ef d ∧ qX13_readAnd l dC dI ca base B ef d ∧ qX13_readOr l dC dI ca base B ef d ∧ qX13_readImp l dC dI ca base B ef d := fun ef => Nat.strongRecOn ef (fun e ih d => by
  have h1 : qX13_readOne l dC dI ca base B e d := fun G0 H0 r0 a1 pk pa pn ak nk aw nw fk fw => uX13_readOne l dC dI ca base B hB hAp hB15 hB150 hB151 hB152 hB153 hB154 hB155 hB156 hB157 hB166 hB167 e d (fun e1 d1 h => (ih e1 h d1).1) (fun e1 d1 h => (ih e1 h d1).2.2.2) G0 H0 r0 a1 pk pa pn ak nk aw nw fk fw
  have h2 : qX13_readAnd l dC dI ca base B e d := fun G0 H0 r0 a1 pk pa pn ak nk aw nw fk fw => uX13_readAnd l dC dI ca base B hB hAp hB15 hB150 hB151 hB152 hB153 hB154 hB155 hB156 hB157 hB166 hB167 e d h1 (fun e1 h => (ih e1 h d).2.1) G0 H0 r0 a1 pk pa pn ak nk aw nw fk fw
  have h3 : qX13_readOr l dC dI ca base B e d := fun G0 H0 r0 a1 pk pa pn ak nk aw nw fk fw => uX13_readOr l dC dI ca base B hB hAp hB15 hB150 hB151 hB152 hB153 hB154 hB155 hB156 hB157 hB166 hB167 e d h2 (fun e1 h => (ih e1 h d).2.2.1) G0 H0 r0 a1 pk pa pn ak nk aw nw fk fw
  exact ⟨h1, h2, h3, fun G0 H0 r0 a1 pk pa pn ak nk aw nw fk fw => uX13_readImp l dC dI ca base B hB hAp hB15 hB150 hB151 hB152 hB153 hB154 hB155 hB156 hB157 hB166 hB167 e d h3 (fun e1 h => (ih e1 h d).2.2.2) G0 H0 r0 a1 pk pa pn ak nk aw nw fk fw⟩)
