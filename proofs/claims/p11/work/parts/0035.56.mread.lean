section
theorem dX14_readValue_0 : decode cX14_readValue 0 = .ok (.aload_n 0, 1) := by decide +kernel
theorem dX14_readValue_1 : decode cX14_readValue 1 = .ok (.invokevirtual 285, 3) := by decide +kernel
theorem dX14_readValue_4 : decode cX14_readValue 4 = .ok (.aload_n 0, 1) := by decide +kernel
theorem dX14_readValue_5 : decode cX14_readValue 5 = .ok (.invokevirtual 279, 3) := by decide +kernel
theorem dX14_readValue_8 : decode cX14_readValue 8 = .ok (.istore_n 2, 1) := by decide +kernel
theorem dX14_readValue_9 : decode cX14_readValue 9 = .ok (.iload_n 2, 1) := by decide +kernel
theorem dX14_readValue_10 : decode cX14_readValue 10 = .ok (.bipush 123, 2) := by decide +kernel
theorem dX14_readValue_12 : decode cX14_readValue 12 = .ok (.if_icmp .eq 9, 3) := by decide +kernel
theorem dX14_readValue_15 : decode cX14_readValue 15 = .ok (.iload_n 2, 1) := by decide +kernel
theorem dX14_readValue_16 : decode cX14_readValue 16 = .ok (.bipush 91, 2) := by decide +kernel
theorem dX14_readValue_18 : decode cX14_readValue 18 = .ok (.if_icmp .ne 44, 3) := by decide +kernel
theorem dX14_readValue_21 : decode cX14_readValue 21 = .ok (.iload_n 1, 1) := by decide +kernel
theorem dX14_readValue_22 : decode cX14_readValue 22 = .ok (.bipush 10, 2) := by decide +kernel
theorem dX14_readValue_24 : decode cX14_readValue 24 = .ok (.if_icmp .ne 8, 3) := by decide +kernel
theorem dX14_readValue_27 : decode cX14_readValue 27 = .ok (.aload_n 0, 1) := by decide +kernel
theorem dX14_readValue_28 : decode cX14_readValue 28 = .ok (.iconst 1, 1) := by decide +kernel
theorem dX14_readValue_29 : decode cX14_readValue 29 = .ok (.putfield 288, 3) := by decide +kernel
theorem dX14_readValue_32 : decode cX14_readValue 32 = .ok (.aload_n 0, 1) := by decide +kernel
theorem dX14_readValue_33 : decode cX14_readValue 33 = .ok (.getfield 288, 3) := by decide +kernel
theorem dX14_readValue_36 : decode cX14_readValue 36 = .ok (.ifCond .eq 7, 3) := by decide +kernel
theorem dX14_readValue_39 : decode cX14_readValue 39 = .ok (.iconst 0, 1) := by decide +kernel
theorem dX14_readValue_40 : decode cX14_readValue 40 = .ok (.goto 21, 3) := by decide +kernel
theorem dX14_readValue_43 : decode cX14_readValue 43 = .ok (.aload_n 0, 1) := by decide +kernel
theorem dX14_readValue_44 : decode cX14_readValue 44 = .ok (.iload_n 2, 1) := by decide +kernel
theorem dX14_readValue_45 : decode cX14_readValue 45 = .ok (.bipush 123, 2) := by decide +kernel
theorem dX14_readValue_47 : decode cX14_readValue 47 = .ok (.if_icmp .ne 7, 3) := by decide +kernel
theorem dX14_readValue_50 : decode cX14_readValue 50 = .ok (.iconst 1, 1) := by decide +kernel
theorem dX14_readValue_51 : decode cX14_readValue 51 = .ok (.goto 4, 3) := by decide +kernel
theorem dX14_readValue_54 : decode cX14_readValue 54 = .ok (.iconst 0, 1) := by decide +kernel
theorem dX14_readValue_55 : decode cX14_readValue 55 = .ok (.iload_n 1, 1) := by decide +kernel
theorem dX14_readValue_56 : decode cX14_readValue 56 = .ok (.iconst 1, 1) := by decide +kernel
theorem dX14_readValue_57 : decode cX14_readValue 57 = .ok (.iadd, 1) := by decide +kernel
theorem dX14_readValue_58 : decode cX14_readValue 58 = .ok (.invokevirtual 291, 3) := by decide +kernel
theorem dX14_readValue_61 : decode cX14_readValue 61 = .ok (.ireturn, 1) := by decide +kernel
theorem dX14_readValue_62 : decode cX14_readValue 62 = .ok (.iload_n 2, 1) := by decide +kernel
theorem dX14_readValue_63 : decode cX14_readValue 63 = .ok (.bipush 34, 2) := by decide +kernel
theorem dX14_readValue_65 : decode cX14_readValue 65 = .ok (.if_icmp .ne 35, 3) := by decide +kernel
theorem dX14_readValue_68 : decode cX14_readValue 68 = .ok (.aload_n 0, 1) := by decide +kernel
theorem dX14_readValue_69 : decode cX14_readValue 69 = .ok (.iconst 4, 1) := by decide +kernel
theorem dX14_readValue_70 : decode cX14_readValue 70 = .ok (.invokevirtual 295, 3) := by decide +kernel
theorem dX14_readValue_73 : decode cX14_readValue 73 = .ok (.istore_n 3, 1) := by decide +kernel
theorem dX14_readValue_74 : decode cX14_readValue 74 = .ok (.aload_n 0, 1) := by decide +kernel
theorem dX14_readValue_75 : decode cX14_readValue 75 = .ok (.invokevirtual 298, 3) := by decide +kernel
theorem dX14_readValue_78 : decode cX14_readValue 78 = .ok (.aload_n 0, 1) := by decide +kernel
theorem dX14_readValue_79 : decode cX14_readValue 79 = .ok (.getfield 52, 3) := by decide +kernel
theorem dX14_readValue_82 : decode cX14_readValue 82 = .ok (.iload_n 3, 1) := by decide +kernel
theorem dX14_readValue_83 : decode cX14_readValue 83 = .ok (.aload_n 0, 1) := by decide +kernel
theorem dX14_readValue_84 : decode cX14_readValue 84 = .ok (.getfield 301, 3) := by decide +kernel
theorem dX14_readValue_87 : decode cX14_readValue 87 = .ok (.iastore, 1) := by decide +kernel
theorem dX14_readValue_88 : decode cX14_readValue 88 = .ok (.aload_n 0, 1) := by decide +kernel
theorem dX14_readValue_89 : decode cX14_readValue 89 = .ok (.getfield 55, 3) := by decide +kernel
theorem dX14_readValue_92 : decode cX14_readValue 92 = .ok (.iload_n 3, 1) := by decide +kernel
theorem dX14_readValue_93 : decode cX14_readValue 93 = .ok (.aload_n 0, 1) := by decide +kernel
theorem dX14_readValue_94 : decode cX14_readValue 94 = .ok (.getfield 304, 3) := by decide +kernel
theorem dX14_readValue_97 : decode cX14_readValue 97 = .ok (.iastore, 1) := by decide +kernel
theorem dX14_readValue_98 : decode cX14_readValue 98 = .ok (.iload_n 3, 1) := by decide +kernel
theorem dX14_readValue_99 : decode cX14_readValue 99 = .ok (.ireturn, 1) := by decide +kernel
theorem dX14_readValue_100 : decode cX14_readValue 100 = .ok (.aload_n 0, 1) := by decide +kernel
theorem dX14_readValue_101 : decode cX14_readValue 101 = .ok (.ldc_w 307, 3) := by decide +kernel
theorem dX14_readValue_104 : decode cX14_readValue 104 = .ok (.invokevirtual 309, 3) := by decide +kernel
theorem dX14_readValue_107 : decode cX14_readValue 107 = .ok (.ifCond .eq 9, 3) := by decide +kernel
theorem dX14_readValue_110 : decode cX14_readValue 110 = .ok (.aload_n 0, 1) := by decide +kernel
theorem dX14_readValue_111 : decode cX14_readValue 111 = .ok (.iconst 0, 1) := by decide +kernel
theorem dX14_readValue_112 : decode cX14_readValue 112 = .ok (.invokevirtual 295, 3) := by decide +kernel
theorem dX14_readValue_115 : decode cX14_readValue 115 = .ok (.ireturn, 1) := by decide +kernel
theorem dX14_readValue_116 : decode cX14_readValue 116 = .ok (.aload_n 0, 1) := by decide +kernel
theorem dX14_readValue_117 : decode cX14_readValue 117 = .ok (.ldc_w 313, 3) := by decide +kernel
theorem dX14_readValue_120 : decode cX14_readValue 120 = .ok (.invokevirtual 309, 3) := by decide +kernel
theorem dX14_readValue_123 : decode cX14_readValue 123 = .ok (.ifCond .eq 9, 3) := by decide +kernel
theorem dX14_readValue_126 : decode cX14_readValue 126 = .ok (.aload_n 0, 1) := by decide +kernel
theorem dX14_readValue_127 : decode cX14_readValue 127 = .ok (.iconst 1, 1) := by decide +kernel
theorem dX14_readValue_128 : decode cX14_readValue 128 = .ok (.invokevirtual 295, 3) := by decide +kernel
theorem dX14_readValue_131 : decode cX14_readValue 131 = .ok (.ireturn, 1) := by decide +kernel
theorem dX14_readValue_132 : decode cX14_readValue 132 = .ok (.aload_n 0, 1) := by decide +kernel
theorem dX14_readValue_133 : decode cX14_readValue 133 = .ok (.ldc_w 315, 3) := by decide +kernel
theorem dX14_readValue_136 : decode cX14_readValue 136 = .ok (.invokevirtual 309, 3) := by decide +kernel
theorem dX14_readValue_139 : decode cX14_readValue 139 = .ok (.ifCond .eq 9, 3) := by decide +kernel
theorem dX14_readValue_142 : decode cX14_readValue 142 = .ok (.aload_n 0, 1) := by decide +kernel
theorem dX14_readValue_143 : decode cX14_readValue 143 = .ok (.iconst 2, 1) := by decide +kernel
theorem dX14_readValue_144 : decode cX14_readValue 144 = .ok (.invokevirtual 295, 3) := by decide +kernel
theorem dX14_readValue_147 : decode cX14_readValue 147 = .ok (.ireturn, 1) := by decide +kernel
theorem dX14_readValue_148 : decode cX14_readValue 148 = .ok (.aload_n 0, 1) := by decide +kernel
theorem dX14_readValue_149 : decode cX14_readValue 149 = .ok (.invokevirtual 317, 3) := by decide +kernel
theorem dX14_readValue_152 : decode cX14_readValue 152 = .ok (.ireturn, 1) := by decide +kernel
theorem dX14_readMany_0 : decode cX14_readMany 0 = .ok (.aload_n 0, 1) := by decide +kernel
theorem dX14_readMany_1 : decode cX14_readMany 1 = .ok (.iload_n 1, 1) := by decide +kernel
theorem dX14_readMany_2 : decode cX14_readMany 2 = .ok (.ifCond .eq 8, 3) := by decide +kernel
theorem dX14_readMany_5 : decode cX14_readMany 5 = .ok (.bipush 6, 2) := by decide +kernel
theorem dX14_readMany_7 : decode cX14_readMany 7 = .ok (.goto 4, 3) := by decide +kernel
theorem dX14_readMany_10 : decode cX14_readMany 10 = .ok (.iconst 5, 1) := by decide +kernel
theorem dX14_readMany_11 : decode cX14_readMany 11 = .ok (.invokevirtual 295, 3) := by decide +kernel
theorem dX14_readMany_14 : decode cX14_readMany 14 = .ok (.istore_n 3, 1) := by decide +kernel
theorem dX14_readMany_15 : decode cX14_readMany 15 = .ok (.aload_n 0, 1) := by decide +kernel
theorem dX14_readMany_16 : decode cX14_readMany 16 = .ok (.dup, 1) := by decide +kernel
theorem dX14_readMany_17 : decode cX14_readMany 17 = .ok (.getfield 273, 3) := by decide +kernel
theorem dX14_readMany_20 : decode cX14_readMany 20 = .ok (.iconst 1, 1) := by decide +kernel
theorem dX14_readMany_21 : decode cX14_readMany 21 = .ok (.iadd, 1) := by decide +kernel
theorem dX14_readMany_22 : decode cX14_readMany 22 = .ok (.putfield 273, 3) := by decide +kernel
theorem dX14_readMany_25 : decode cX14_readMany 25 = .ok (.iload_n 1, 1) := by decide +kernel
theorem dX14_readMany_26 : decode cX14_readMany 26 = .ok (.ifCond .eq 8, 3) := by decide +kernel
theorem dX14_readMany_29 : decode cX14_readMany 29 = .ok (.bipush 125, 2) := by decide +kernel
theorem dX14_readMany_31 : decode cX14_readMany 31 = .ok (.goto 5, 3) := by decide +kernel
theorem dX14_readMany_34 : decode cX14_readMany 34 = .ok (.bipush 93, 2) := by decide +kernel
theorem dX14_readMany_36 : decode cX14_readMany 36 = .ok (.istore 4, 2) := by decide +kernel
theorem dX14_readMany_38 : decode cX14_readMany 38 = .ok (.aload_n 0, 1) := by decide +kernel
theorem dX14_readMany_39 : decode cX14_readMany 39 = .ok (.invokevirtual 285, 3) := by decide +kernel
theorem dX14_readMany_42 : decode cX14_readMany 42 = .ok (.aload_n 0, 1) := by decide +kernel
theorem dX14_readMany_43 : decode cX14_readMany 43 = .ok (.invokevirtual 279, 3) := by decide +kernel
theorem dX14_readMany_46 : decode cX14_readMany 46 = .ok (.iload 4, 2) := by decide +kernel
theorem dX14_readMany_48 : decode cX14_readMany 48 = .ok (.if_icmp .ne 15, 3) := by decide +kernel
theorem dX14_readMany_51 : decode cX14_readMany 51 = .ok (.aload_n 0, 1) := by decide +kernel
theorem dX14_readMany_52 : decode cX14_readMany 52 = .ok (.dup, 1) := by decide +kernel
theorem dX14_readMany_53 : decode cX14_readMany 53 = .ok (.getfield 273, 3) := by decide +kernel
theorem dX14_readMany_56 : decode cX14_readMany 56 = .ok (.iconst 1, 1) := by decide +kernel
theorem dX14_readMany_57 : decode cX14_readMany 57 = .ok (.iadd, 1) := by decide +kernel
theorem dX14_readMany_58 : decode cX14_readMany 58 = .ok (.putfield 273, 3) := by decide +kernel
theorem dX14_readMany_61 : decode cX14_readMany 61 = .ok (.iload_n 3, 1) := by decide +kernel
theorem dX14_readMany_62 : decode cX14_readMany 62 = .ok (.ireturn, 1) := by decide +kernel
theorem dX14_readMany_63 : decode cX14_readMany 63 = .ok (.iconst (-1), 1) := by decide +kernel
theorem dX14_readMany_64 : decode cX14_readMany 64 = .ok (.istore 5, 2) := by decide +kernel
theorem dX14_readMany_66 : decode cX14_readMany 66 = .ok (.iconst 1, 1) := by decide +kernel
theorem dX14_readMany_67 : decode cX14_readMany 67 = .ok (.istore 6, 2) := by decide +kernel
theorem dX14_readMany_69 : decode cX14_readMany 69 = .ok (.iload 6, 2) := by decide +kernel
theorem dX14_readMany_71 : decode cX14_readMany 71 = .ok (.ifCond .eq 215, 3) := by decide +kernel
theorem dX14_readMany_74 : decode cX14_readMany 74 = .ok (.aload_n 0, 1) := by decide +kernel
theorem dX14_readMany_75 : decode cX14_readMany 75 = .ok (.getfield 288, 3) := by decide +kernel
theorem dX14_readMany_78 : decode cX14_readMany 78 = .ok (.ifCond .ne 208, 3) := by decide +kernel
theorem dX14_readMany_81 : decode cX14_readMany 81 = .ok (.iconst 0, 1) := by decide +kernel
theorem dX14_readMany_82 : decode cX14_readMany 82 = .ok (.istore 7, 2) := by decide +kernel
theorem dX14_readMany_84 : decode cX14_readMany 84 = .ok (.iconst 0, 1) := by decide +kernel
theorem dX14_readMany_85 : decode cX14_readMany 85 = .ok (.istore 8, 2) := by decide +kernel
theorem dX14_readMany_87 : decode cX14_readMany 87 = .ok (.iload_n 1, 1) := by decide +kernel
theorem dX14_readMany_88 : decode cX14_readMany 88 = .ok (.ifCond .eq 72, 3) := by decide +kernel
theorem dX14_readMany_91 : decode cX14_readMany 91 = .ok (.aload_n 0, 1) := by decide +kernel
theorem dX14_readMany_92 : decode cX14_readMany 92 = .ok (.invokevirtual 285, 3) := by decide +kernel
theorem dX14_readMany_95 : decode cX14_readMany 95 = .ok (.aload_n 0, 1) := by decide +kernel
theorem dX14_readMany_96 : decode cX14_readMany 96 = .ok (.invokevirtual 279, 3) := by decide +kernel
theorem dX14_readMany_99 : decode cX14_readMany 99 = .ok (.bipush 34, 2) := by decide +kernel
theorem dX14_readMany_101 : decode cX14_readMany 101 = .ok (.if_icmp .eq 8, 3) := by decide +kernel
theorem dX14_readMany_104 : decode cX14_readMany 104 = .ok (.aload_n 0, 1) := by decide +kernel
theorem dX14_readMany_105 : decode cX14_readMany 105 = .ok (.iconst 1, 1) := by decide +kernel
theorem dX14_readMany_106 : decode cX14_readMany 106 = .ok (.putfield 288, 3) := by decide +kernel
theorem dX14_readMany_109 : decode cX14_readMany 109 = .ok (.aload_n 0, 1) := by decide +kernel
theorem dX14_readMany_110 : decode cX14_readMany 110 = .ok (.getfield 288, 3) := by decide +kernel
theorem dX14_readMany_113 : decode cX14_readMany 113 = .ok (.ifCond .ne 7, 3) := by decide +kernel
theorem dX14_readMany_116 : decode cX14_readMany 116 = .ok (.aload_n 0, 1) := by decide +kernel
theorem dX14_readMany_117 : decode cX14_readMany 117 = .ok (.invokevirtual 298, 3) := by decide +kernel
theorem dX14_readMany_120 : decode cX14_readMany 120 = .ok (.aload_n 0, 1) := by decide +kernel
theorem dX14_readMany_121 : decode cX14_readMany 121 = .ok (.getfield 301, 3) := by decide +kernel
theorem dX14_readMany_124 : decode cX14_readMany 124 = .ok (.istore 7, 2) := by decide +kernel
theorem dX14_readMany_126 : decode cX14_readMany 126 = .ok (.aload_n 0, 1) := by decide +kernel
theorem dX14_readMany_127 : decode cX14_readMany 127 = .ok (.getfield 304, 3) := by decide +kernel
theorem dX14_readMany_130 : decode cX14_readMany 130 = .ok (.istore 8, 2) := by decide +kernel
theorem dX14_readMany_132 : decode cX14_readMany 132 = .ok (.aload_n 0, 1) := by decide +kernel
theorem dX14_readMany_133 : decode cX14_readMany 133 = .ok (.invokevirtual 285, 3) := by decide +kernel
theorem dX14_readMany_136 : decode cX14_readMany 136 = .ok (.aload_n 0, 1) := by decide +kernel
theorem dX14_readMany_137 : decode cX14_readMany 137 = .ok (.invokevirtual 279, 3) := by decide +kernel
theorem dX14_readMany_140 : decode cX14_readMany 140 = .ok (.bipush 58, 2) := by decide +kernel
theorem dX14_readMany_142 : decode cX14_readMany 142 = .ok (.if_icmp .eq 8, 3) := by decide +kernel
theorem dX14_readMany_145 : decode cX14_readMany 145 = .ok (.aload_n 0, 1) := by decide +kernel
theorem dX14_readMany_146 : decode cX14_readMany 146 = .ok (.iconst 1, 1) := by decide +kernel
theorem dX14_readMany_147 : decode cX14_readMany 147 = .ok (.putfield 288, 3) := by decide +kernel
theorem dX14_readMany_150 : decode cX14_readMany 150 = .ok (.aload_n 0, 1) := by decide +kernel
theorem dX14_readMany_151 : decode cX14_readMany 151 = .ok (.dup, 1) := by decide +kernel
theorem dX14_readMany_152 : decode cX14_readMany 152 = .ok (.getfield 273, 3) := by decide +kernel
theorem dX14_readMany_155 : decode cX14_readMany 155 = .ok (.iconst 1, 1) := by decide +kernel
theorem dX14_readMany_156 : decode cX14_readMany 156 = .ok (.iadd, 1) := by decide +kernel
theorem dX14_readMany_157 : decode cX14_readMany 157 = .ok (.putfield 273, 3) := by decide +kernel
theorem dX14_readMany_160 : decode cX14_readMany 160 = .ok (.aload_n 0, 1) := by decide +kernel
theorem dX14_readMany_161 : decode cX14_readMany 161 = .ok (.getfield 288, 3) := by decide +kernel
theorem dX14_readMany_164 : decode cX14_readMany 164 = .ok (.ifCond .eq 7, 3) := by decide +kernel
theorem dX14_readMany_167 : decode cX14_readMany 167 = .ok (.iconst 0, 1) := by decide +kernel
theorem dX14_readMany_168 : decode cX14_readMany 168 = .ok (.goto 8, 3) := by decide +kernel
theorem dX14_readMany_171 : decode cX14_readMany 171 = .ok (.aload_n 0, 1) := by decide +kernel
theorem dX14_readMany_172 : decode cX14_readMany 172 = .ok (.iload_n 2, 1) := by decide +kernel
theorem dX14_readMany_173 : decode cX14_readMany 173 = .ok (.invokevirtual 361, 3) := by decide +kernel
theorem dX14_readMany_176 : decode cX14_readMany 176 = .ok (.istore 9, 2) := by decide +kernel
theorem dX14_readMany_178 : decode cX14_readMany 178 = .ok (.aload_n 0, 1) := by decide +kernel
theorem dX14_readMany_179 : decode cX14_readMany 179 = .ok (.getfield 288, 3) := by decide +kernel
theorem dX14_readMany_182 : decode cX14_readMany 182 = .ok (.ifCond .eq 5, 3) := by decide +kernel
theorem dX14_readMany_185 : decode cX14_readMany 185 = .ok (.iload_n 3, 1) := by decide +kernel
theorem dX14_readMany_186 : decode cX14_readMany 186 = .ok (.ireturn, 1) := by decide +kernel
theorem dX14_readMany_187 : decode cX14_readMany 187 = .ok (.aload_n 0, 1) := by decide +kernel
theorem dX14_readMany_188 : decode cX14_readMany 188 = .ok (.getfield 46, 3) := by decide +kernel
theorem dX14_readMany_191 : decode cX14_readMany 191 = .ok (.iload 9, 2) := by decide +kernel
theorem dX14_readMany_193 : decode cX14_readMany 193 = .ok (.iload 7, 2) := by decide +kernel
theorem dX14_readMany_195 : decode cX14_readMany 195 = .ok (.iastore, 1) := by decide +kernel
theorem dX14_readMany_196 : decode cX14_readMany 196 = .ok (.aload_n 0, 1) := by decide +kernel
theorem dX14_readMany_197 : decode cX14_readMany 197 = .ok (.getfield 49, 3) := by decide +kernel
theorem dX14_readMany_200 : decode cX14_readMany 200 = .ok (.iload 9, 2) := by decide +kernel
theorem dX14_readMany_202 : decode cX14_readMany 202 = .ok (.iload 8, 2) := by decide +kernel
theorem dX14_readMany_204 : decode cX14_readMany 204 = .ok (.iastore, 1) := by decide +kernel
theorem dX14_readMany_205 : decode cX14_readMany 205 = .ok (.iload 5, 2) := by decide +kernel
theorem dX14_readMany_207 : decode cX14_readMany 207 = .ok (.ifCond .ge 14, 3) := by decide +kernel
theorem dX14_readMany_210 : decode cX14_readMany 210 = .ok (.aload_n 0, 1) := by decide +kernel
theorem dX14_readMany_211 : decode cX14_readMany 211 = .ok (.getfield 40, 3) := by decide +kernel
theorem dX14_readMany_214 : decode cX14_readMany 214 = .ok (.iload_n 3, 1) := by decide +kernel
theorem dX14_readMany_215 : decode cX14_readMany 215 = .ok (.iload 9, 2) := by decide +kernel
theorem dX14_readMany_217 : decode cX14_readMany 217 = .ok (.iastore, 1) := by decide +kernel
theorem dX14_readMany_218 : decode cX14_readMany 218 = .ok (.goto 12, 3) := by decide +kernel
theorem dX14_readMany_221 : decode cX14_readMany 221 = .ok (.aload_n 0, 1) := by decide +kernel
theorem dX14_readMany_222 : decode cX14_readMany 222 = .ok (.getfield 43, 3) := by decide +kernel
theorem dX14_readMany_225 : decode cX14_readMany 225 = .ok (.iload 5, 2) := by decide +kernel
theorem dX14_readMany_227 : decode cX14_readMany 227 = .ok (.iload 9, 2) := by decide +kernel
theorem dX14_readMany_229 : decode cX14_readMany 229 = .ok (.iastore, 1) := by decide +kernel
theorem dX14_readMany_230 : decode cX14_readMany 230 = .ok (.iload 9, 2) := by decide +kernel
theorem dX14_readMany_232 : decode cX14_readMany 232 = .ok (.istore 5, 2) := by decide +kernel
theorem dX14_readMany_234 : decode cX14_readMany 234 = .ok (.aload_n 0, 1) := by decide +kernel
theorem dX14_readMany_235 : decode cX14_readMany 235 = .ok (.invokevirtual 285, 3) := by decide +kernel
theorem dX14_readMany_238 : decode cX14_readMany 238 = .ok (.aload_n 0, 1) := by decide +kernel
theorem dX14_readMany_239 : decode cX14_readMany 239 = .ok (.invokevirtual 279, 3) := by decide +kernel
theorem dX14_readMany_242 : decode cX14_readMany 242 = .ok (.bipush 44, 2) := by decide +kernel
theorem dX14_readMany_244 : decode cX14_readMany 244 = .ok (.if_icmp .ne 7, 3) := by decide +kernel
theorem dX14_readMany_247 : decode cX14_readMany 247 = .ok (.iconst 1, 1) := by decide +kernel
theorem dX14_readMany_248 : decode cX14_readMany 248 = .ok (.goto 4, 3) := by decide +kernel
theorem dX14_readMany_251 : decode cX14_readMany 251 = .ok (.iconst 0, 1) := by decide +kernel
theorem dX14_readMany_252 : decode cX14_readMany 252 = .ok (.istore 6, 2) := by decide +kernel
theorem dX14_readMany_254 : decode cX14_readMany 254 = .ok (.iload 6, 2) := by decide +kernel
theorem dX14_readMany_256 : decode cX14_readMany 256 = .ok (.ifCond .ne 17, 3) := by decide +kernel
theorem dX14_readMany_259 : decode cX14_readMany 259 = .ok (.aload_n 0, 1) := by decide +kernel
theorem dX14_readMany_260 : decode cX14_readMany 260 = .ok (.invokevirtual 279, 3) := by decide +kernel
theorem dX14_readMany_263 : decode cX14_readMany 263 = .ok (.iload 4, 2) := by decide +kernel
theorem dX14_readMany_265 : decode cX14_readMany 265 = .ok (.if_icmp .eq 8, 3) := by decide +kernel
theorem dX14_readMany_268 : decode cX14_readMany 268 = .ok (.aload_n 0, 1) := by decide +kernel
theorem dX14_readMany_269 : decode cX14_readMany 269 = .ok (.iconst 1, 1) := by decide +kernel
theorem dX14_readMany_270 : decode cX14_readMany 270 = .ok (.putfield 288, 3) := by decide +kernel
theorem dX14_readMany_273 : decode cX14_readMany 273 = .ok (.aload_n 0, 1) := by decide +kernel
theorem dX14_readMany_274 : decode cX14_readMany 274 = .ok (.dup, 1) := by decide +kernel
theorem dX14_readMany_275 : decode cX14_readMany 275 = .ok (.getfield 273, 3) := by decide +kernel
theorem dX14_readMany_278 : decode cX14_readMany 278 = .ok (.iconst 1, 1) := by decide +kernel
theorem dX14_readMany_279 : decode cX14_readMany 279 = .ok (.iadd, 1) := by decide +kernel
theorem dX14_readMany_280 : decode cX14_readMany 280 = .ok (.putfield 273, 3) := by decide +kernel
theorem dX14_readMany_283 : decode cX14_readMany 283 = .ok (.goto (-214), 3) := by decide +kernel
theorem dX14_readMany_286 : decode cX14_readMany 286 = .ok (.iload_n 3, 1) := by decide +kernel
theorem dX14_readMany_287 : decode cX14_readMany 287 = .ok (.ireturn, 1) := by decide +kernel
end
