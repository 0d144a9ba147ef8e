section
theorem dX4_valueOf_0 : decode cX4_valueOf 0 = .ok (.iload_n 1, 1) := by decide +kernel
theorem dX4_valueOf_1 : decode cX4_valueOf 1 = .ok (.ifCond .lt 11, 3) := by decide +kernel
theorem dX4_valueOf_4 : decode cX4_valueOf 4 = .ok (.iload_n 1, 1) := by decide +kernel
theorem dX4_valueOf_5 : decode cX4_valueOf 5 = .ok (.aload_n 0, 1) := by decide +kernel
theorem dX4_valueOf_6 : decode cX4_valueOf 6 = .ok (.getfield 50, 3) := by decide +kernel
theorem dX4_valueOf_9 : decode cX4_valueOf 9 = .ok (.if_icmp .lt 7, 3) := by decide +kernel
theorem dX4_valueOf_12 : decode cX4_valueOf 12 = .ok (.iconst 0, 1) := by decide +kernel
theorem dX4_valueOf_13 : decode cX4_valueOf 13 = .ok (.goto 9, 3) := by decide +kernel
theorem dX4_valueOf_16 : decode cX4_valueOf 16 = .ok (.aload_n 0, 1) := by decide +kernel
theorem dX4_valueOf_17 : decode cX4_valueOf 17 = .ok (.getfield 15, 3) := by decide +kernel
theorem dX4_valueOf_20 : decode cX4_valueOf 20 = .ok (.iload_n 1, 1) := by decide +kernel
theorem dX4_valueOf_21 : decode cX4_valueOf 21 = .ok (.iaload, 1) := by decide +kernel
theorem dX4_valueOf_22 : decode cX4_valueOf 22 = .ok (.ireturn, 1) := by decide +kernel
theorem dX4_firstOf_0 : decode cX4_firstOf 0 = .ok (.iload_n 1, 1) := by decide +kernel
theorem dX4_firstOf_1 : decode cX4_firstOf 1 = .ok (.ifCond .lt 11, 3) := by decide +kernel
theorem dX4_firstOf_4 : decode cX4_firstOf 4 = .ok (.iload_n 1, 1) := by decide +kernel
theorem dX4_firstOf_5 : decode cX4_firstOf 5 = .ok (.aload_n 0, 1) := by decide +kernel
theorem dX4_firstOf_6 : decode cX4_firstOf 6 = .ok (.getfield 50, 3) := by decide +kernel
theorem dX4_firstOf_9 : decode cX4_firstOf 9 = .ok (.if_icmp .lt 7, 3) := by decide +kernel
theorem dX4_firstOf_12 : decode cX4_firstOf 12 = .ok (.iconst (-1), 1) := by decide +kernel
theorem dX4_firstOf_13 : decode cX4_firstOf 13 = .ok (.goto 9, 3) := by decide +kernel
theorem dX4_firstOf_16 : decode cX4_firstOf 16 = .ok (.aload_n 0, 1) := by decide +kernel
theorem dX4_firstOf_17 : decode cX4_firstOf 17 = .ok (.getfield 15, 3) := by decide +kernel
theorem dX4_firstOf_20 : decode cX4_firstOf 20 = .ok (.iload_n 1, 1) := by decide +kernel
theorem dX4_firstOf_21 : decode cX4_firstOf 21 = .ok (.iaload, 1) := by decide +kernel
theorem dX4_firstOf_22 : decode cX4_firstOf 22 = .ok (.ireturn, 1) := by decide +kernel
theorem dX4_nextOf_0 : decode cX4_nextOf 0 = .ok (.iload_n 1, 1) := by decide +kernel
theorem dX4_nextOf_1 : decode cX4_nextOf 1 = .ok (.ifCond .lt 11, 3) := by decide +kernel
theorem dX4_nextOf_4 : decode cX4_nextOf 4 = .ok (.iload_n 1, 1) := by decide +kernel
theorem dX4_nextOf_5 : decode cX4_nextOf 5 = .ok (.aload_n 0, 1) := by decide +kernel
theorem dX4_nextOf_6 : decode cX4_nextOf 6 = .ok (.getfield 50, 3) := by decide +kernel
theorem dX4_nextOf_9 : decode cX4_nextOf 9 = .ok (.if_icmp .lt 7, 3) := by decide +kernel
theorem dX4_nextOf_12 : decode cX4_nextOf 12 = .ok (.iconst (-1), 1) := by decide +kernel
theorem dX4_nextOf_13 : decode cX4_nextOf 13 = .ok (.goto 9, 3) := by decide +kernel
theorem dX4_nextOf_16 : decode cX4_nextOf 16 = .ok (.aload_n 0, 1) := by decide +kernel
theorem dX4_nextOf_17 : decode cX4_nextOf 17 = .ok (.getfield 21, 3) := by decide +kernel
theorem dX4_nextOf_20 : decode cX4_nextOf 20 = .ok (.iload_n 1, 1) := by decide +kernel
theorem dX4_nextOf_21 : decode cX4_nextOf 21 = .ok (.iaload, 1) := by decide +kernel
theorem dX4_nextOf_22 : decode cX4_nextOf 22 = .ok (.ireturn, 1) := by decide +kernel
end
section
theorem dX1_part_0 : decode cX1_part 0 = .ok (.aload_n 0, 1) := by decide +kernel
theorem dX1_part_1 : decode cX1_part 1 = .ok (.iconst 0, 1) := by decide +kernel
theorem dX1_part_2 : decode cX1_part 2 = .ok (.putfield 69, 3) := by decide +kernel
theorem dX1_part_5 : decode cX1_part 5 = .ok (.aload_n 0, 1) := by decide +kernel
theorem dX1_part_6 : decode cX1_part 6 = .ok (.iconst 0, 1) := by decide +kernel
theorem dX1_part_7 : decode cX1_part 7 = .ok (.invokevirtual 75, 3) := by decide +kernel
theorem dX1_part_10 : decode cX1_part 10 = .ok (.istore_n 2, 1) := by decide +kernel
theorem dX1_part_11 : decode cX1_part 11 = .ok (.iconst 0, 1) := by decide +kernel
theorem dX1_part_12 : decode cX1_part 12 = .ok (.istore_n 3, 1) := by decide +kernel
theorem dX1_part_13 : decode cX1_part 13 = .ok (.iload_n 3, 1) := by decide +kernel
theorem dX1_part_14 : decode cX1_part 14 = .ok (.bipush 40, 2) := by decide +kernel
theorem dX1_part_16 : decode cX1_part 16 = .ok (.if_icmp .ge 85, 3) := by decide +kernel
theorem dX1_part_19 : decode cX1_part 19 = .ok (.iload_n 2, 1) := by decide +kernel
theorem dX1_part_20 : decode cX1_part 20 = .ok (.aload_n 0, 1) := by decide +kernel
theorem dX1_part_21 : decode cX1_part 21 = .ok (.getfield 42, 3) := by decide +kernel
theorem dX1_part_24 : decode cX1_part 24 = .ok (.if_icmp .ge 77, 3) := by decide +kernel
theorem dX1_part_27 : decode cX1_part 27 = .ok (.aload_n 0, 1) := by decide +kernel
theorem dX1_part_28 : decode cX1_part 28 = .ok (.iload_n 2, 1) := by decide +kernel
theorem dX1_part_29 : decode cX1_part 29 = .ok (.invokevirtual 78, 3) := by decide +kernel
theorem dX1_part_32 : decode cX1_part 32 = .ok (.istore 4, 2) := by decide +kernel
theorem dX1_part_34 : decode cX1_part 34 = .ok (.aload_n 0, 1) := by decide +kernel
theorem dX1_part_35 : decode cX1_part 35 = .ok (.getfield 18, 3) := by decide +kernel
theorem dX1_part_38 : decode cX1_part 38 = .ok (.iload_n 3, 1) := by decide +kernel
theorem dX1_part_39 : decode cX1_part 39 = .ok (.iload_n 2, 1) := by decide +kernel
theorem dX1_part_40 : decode cX1_part 40 = .ok (.iastore, 1) := by decide +kernel
theorem dX1_part_41 : decode cX1_part 41 = .ok (.aload_n 0, 1) := by decide +kernel
theorem dX1_part_42 : decode cX1_part 42 = .ok (.getfield 21, 3) := by decide +kernel
theorem dX1_part_45 : decode cX1_part 45 = .ok (.iload_n 3, 1) := by decide +kernel
theorem dX1_part_46 : decode cX1_part 46 = .ok (.iload 4, 2) := by decide +kernel
theorem dX1_part_48 : decode cX1_part 48 = .ok (.ifCond .ge 10, 3) := by decide +kernel
theorem dX1_part_51 : decode cX1_part 51 = .ok (.aload_n 0, 1) := by decide +kernel
theorem dX1_part_52 : decode cX1_part 52 = .ok (.getfield 42, 3) := by decide +kernel
theorem dX1_part_55 : decode cX1_part 55 = .ok (.goto 5, 3) := by decide +kernel
theorem dX1_part_58 : decode cX1_part 58 = .ok (.iload 4, 2) := by decide +kernel
theorem dX1_part_60 : decode cX1_part 60 = .ok (.iastore, 1) := by decide +kernel
theorem dX1_part_61 : decode cX1_part 61 = .ok (.aload_n 0, 1) := by decide +kernel
theorem dX1_part_62 : decode cX1_part 62 = .ok (.getfield 27, 3) := by decide +kernel
theorem dX1_part_65 : decode cX1_part 65 = .ok (.iload_n 3, 1) := by decide +kernel
theorem dX1_part_66 : decode cX1_part 66 = .ok (.iload 4, 2) := by decide +kernel
theorem dX1_part_68 : decode cX1_part 68 = .ok (.ifCond .ge 7, 3) := by decide +kernel
theorem dX1_part_71 : decode cX1_part 71 = .ok (.iconst 1, 1) := by decide +kernel
theorem dX1_part_72 : decode cX1_part 72 = .ok (.goto 4, 3) := by decide +kernel
theorem dX1_part_75 : decode cX1_part 75 = .ok (.iconst 0, 1) := by decide +kernel
theorem dX1_part_76 : decode cX1_part 76 = .ok (.iastore, 1) := by decide +kernel
theorem dX1_part_77 : decode cX1_part 77 = .ok (.aload_n 0, 1) := by decide +kernel
theorem dX1_part_78 : decode cX1_part 78 = .ok (.iload_n 3, 1) := by decide +kernel
theorem dX1_part_79 : decode cX1_part 79 = .ok (.iconst 1, 1) := by decide +kernel
theorem dX1_part_80 : decode cX1_part 80 = .ok (.iadd, 1) := by decide +kernel
theorem dX1_part_81 : decode cX1_part 81 = .ok (.putfield 69, 3) := by decide +kernel
theorem dX1_part_84 : decode cX1_part 84 = .ok (.aload_n 0, 1) := by decide +kernel
theorem dX1_part_85 : decode cX1_part 85 = .ok (.aload_n 0, 1) := by decide +kernel
theorem dX1_part_86 : decode cX1_part 86 = .ok (.getfield 21, 3) := by decide +kernel
theorem dX1_part_89 : decode cX1_part 89 = .ok (.iload_n 3, 1) := by decide +kernel
theorem dX1_part_90 : decode cX1_part 90 = .ok (.iaload, 1) := by decide +kernel
theorem dX1_part_91 : decode cX1_part 91 = .ok (.invokevirtual 75, 3) := by decide +kernel
theorem dX1_part_94 : decode cX1_part 94 = .ok (.istore_n 2, 1) := by decide +kernel
theorem dX1_part_95 : decode cX1_part 95 = .ok (.iinc 3 1, 3) := by decide +kernel
theorem dX1_part_98 : decode cX1_part 98 = .ok (.goto (-85), 3) := by decide +kernel
theorem dX1_part_101 : decode cX1_part 101 = .ok (.iload_n 2, 1) := by decide +kernel
theorem dX1_part_102 : decode cX1_part 102 = .ok (.aload_n 0, 1) := by decide +kernel
theorem dX1_part_103 : decode cX1_part 103 = .ok (.getfield 42, 3) := by decide +kernel
theorem dX1_part_106 : decode cX1_part 106 = .ok (.if_icmp .ge 31, 3) := by decide +kernel
theorem dX1_part_109 : decode cX1_part 109 = .ok (.aload_n 0, 1) := by decide +kernel
theorem dX1_part_110 : decode cX1_part 110 = .ok (.getfield 69, 3) := by decide +kernel
theorem dX1_part_113 : decode cX1_part 113 = .ok (.bipush 40, 2) := by decide +kernel
theorem dX1_part_115 : decode cX1_part 115 = .ok (.if_icmp .ne 22, 3) := by decide +kernel
theorem dX1_part_118 : decode cX1_part 118 = .ok (.aload_n 0, 1) := by decide +kernel
theorem dX1_part_119 : decode cX1_part 119 = .ok (.getfield 21, 3) := by decide +kernel
theorem dX1_part_122 : decode cX1_part 122 = .ok (.bipush 39, 2) := by decide +kernel
theorem dX1_part_124 : decode cX1_part 124 = .ok (.aload_n 0, 1) := by decide +kernel
theorem dX1_part_125 : decode cX1_part 125 = .ok (.getfield 42, 3) := by decide +kernel
theorem dX1_part_128 : decode cX1_part 128 = .ok (.iastore, 1) := by decide +kernel
theorem dX1_part_129 : decode cX1_part 129 = .ok (.aload_n 0, 1) := by decide +kernel
theorem dX1_part_130 : decode cX1_part 130 = .ok (.getfield 27, 3) := by decide +kernel
theorem dX1_part_133 : decode cX1_part 133 = .ok (.bipush 39, 2) := by decide +kernel
theorem dX1_part_135 : decode cX1_part 135 = .ok (.iconst 2, 1) := by decide +kernel
theorem dX1_part_136 : decode cX1_part 136 = .ok (.iastore, 1) := by decide +kernel
theorem dX1_part_137 : decode cX1_part 137 = .ok (.iconst 0, 1) := by decide +kernel
theorem dX1_part_138 : decode cX1_part 138 = .ok (.istore_n 3, 1) := by decide +kernel
theorem dX1_part_139 : decode cX1_part 139 = .ok (.iload_n 3, 1) := by decide +kernel
theorem dX1_part_140 : decode cX1_part 140 = .ok (.aload_n 0, 1) := by decide +kernel
theorem dX1_part_141 : decode cX1_part 141 = .ok (.getfield 69, 3) := by decide +kernel
theorem dX1_part_144 : decode cX1_part 144 = .ok (.if_icmp .ge 50, 3) := by decide +kernel
theorem dX1_part_147 : decode cX1_part 147 = .ok (.aload_n 0, 1) := by decide +kernel
theorem dX1_part_148 : decode cX1_part 148 = .ok (.getfield 24, 3) := by decide +kernel
theorem dX1_part_151 : decode cX1_part 151 = .ok (.iload_n 3, 1) := by decide +kernel
theorem dX1_part_152 : decode cX1_part 152 = .ok (.iconst 3, 1) := by decide +kernel
theorem dX1_part_153 : decode cX1_part 153 = .ok (.aload_n 0, 1) := by decide +kernel
theorem dX1_part_154 : decode cX1_part 154 = .ok (.getfield 27, 3) := by decide +kernel
theorem dX1_part_157 : decode cX1_part 157 = .ok (.iload_n 3, 1) := by decide +kernel
theorem dX1_part_158 : decode cX1_part 158 = .ok (.iaload, 1) := by decide +kernel
theorem dX1_part_159 : decode cX1_part 159 = .ok (.ifCond .le 7, 3) := by decide +kernel
theorem dX1_part_162 : decode cX1_part 162 = .ok (.iconst 1, 1) := by decide +kernel
theorem dX1_part_163 : decode cX1_part 163 = .ok (.goto 23, 3) := by decide +kernel
theorem dX1_part_166 : decode cX1_part 166 = .ok (.aload_n 1, 1) := by decide +kernel
theorem dX1_part_167 : decode cX1_part 167 = .ok (.aload_n 0, 1) := by decide +kernel
theorem dX1_part_168 : decode cX1_part 168 = .ok (.getfield 15, 3) := by decide +kernel
theorem dX1_part_171 : decode cX1_part 171 = .ok (.aload_n 0, 1) := by decide +kernel
theorem dX1_part_172 : decode cX1_part 172 = .ok (.getfield 18, 3) := by decide +kernel
theorem dX1_part_175 : decode cX1_part 175 = .ok (.iload_n 3, 1) := by decide +kernel
theorem dX1_part_176 : decode cX1_part 176 = .ok (.iaload, 1) := by decide +kernel
theorem dX1_part_177 : decode cX1_part 177 = .ok (.aload_n 0, 1) := by decide +kernel
theorem dX1_part_178 : decode cX1_part 178 = .ok (.getfield 21, 3) := by decide +kernel
theorem dX1_part_181 : decode cX1_part 181 = .ok (.iload_n 3, 1) := by decide +kernel
theorem dX1_part_182 : decode cX1_part 182 = .ok (.iaload, 1) := by decide +kernel
theorem dX1_part_183 : decode cX1_part 183 = .ok (.invokevirtual 81, 3) := by decide +kernel
theorem dX1_part_186 : decode cX1_part 186 = .ok (.iadd, 1) := by decide +kernel
theorem dX1_part_187 : decode cX1_part 187 = .ok (.iastore, 1) := by decide +kernel
theorem dX1_part_188 : decode cX1_part 188 = .ok (.iinc 3 1, 3) := by decide +kernel
theorem dX1_part_191 : decode cX1_part 191 = .ok (.goto (-52), 3) := by decide +kernel
theorem dX1_part_194 : decode cX1_part 194 = .ok (.return_, 1) := by decide +kernel
theorem dX1_sentenceBegin_0 : decode cX1_sentenceBegin 0 = .ok (.iload_n 1, 1) := by decide +kernel
theorem dX1_sentenceBegin_1 : decode cX1_sentenceBegin 1 = .ok (.istore_n 2, 1) := by decide +kernel
theorem dX1_sentenceBegin_2 : decode cX1_sentenceBegin 2 = .ok (.iconst 0, 1) := by decide +kernel
theorem dX1_sentenceBegin_3 : decode cX1_sentenceBegin 3 = .ok (.istore_n 3, 1) := by decide +kernel
theorem dX1_sentenceBegin_4 : decode cX1_sentenceBegin 4 = .ok (.iload_n 3, 1) := by decide +kernel
theorem dX1_sentenceBegin_5 : decode cX1_sentenceBegin 5 = .ok (.aload_n 0, 1) := by decide +kernel
theorem dX1_sentenceBegin_6 : decode cX1_sentenceBegin 6 = .ok (.getfield 42, 3) := by decide +kernel
theorem dX1_sentenceBegin_9 : decode cX1_sentenceBegin 9 = .ok (.if_icmp .gt 59, 3) := by decide +kernel
theorem dX1_sentenceBegin_12 : decode cX1_sentenceBegin 12 = .ok (.iload_n 2, 1) := by decide +kernel
theorem dX1_sentenceBegin_13 : decode cX1_sentenceBegin 13 = .ok (.aload_n 0, 1) := by decide +kernel
theorem dX1_sentenceBegin_14 : decode cX1_sentenceBegin 14 = .ok (.getfield 42, 3) := by decide +kernel
theorem dX1_sentenceBegin_17 : decode cX1_sentenceBegin 17 = .ok (.if_icmp .ge 51, 3) := by decide +kernel
theorem dX1_sentenceBegin_20 : decode cX1_sentenceBegin 20 = .ok (.aload_n 0, 1) := by decide +kernel
theorem dX1_sentenceBegin_21 : decode cX1_sentenceBegin 21 = .ok (.getfield 15, 3) := by decide +kernel
theorem dX1_sentenceBegin_24 : decode cX1_sentenceBegin 24 = .ok (.iload_n 2, 1) := by decide +kernel
theorem dX1_sentenceBegin_25 : decode cX1_sentenceBegin 25 = .ok (.iaload, 1) := by decide +kernel
theorem dX1_sentenceBegin_26 : decode cX1_sentenceBegin 26 = .ok (.invokestatic 87, 3) := by decide +kernel
theorem dX1_sentenceBegin_29 : decode cX1_sentenceBegin 29 = .ok (.ifCond .eq 9, 3) := by decide +kernel
theorem dX1_sentenceBegin_32 : decode cX1_sentenceBegin 32 = .ok (.iinc 2 1, 3) := by decide +kernel
theorem dX1_sentenceBegin_35 : decode cX1_sentenceBegin 35 = .ok (.goto 27, 3) := by decide +kernel
theorem dX1_sentenceBegin_38 : decode cX1_sentenceBegin 38 = .ok (.aload_n 0, 1) := by decide +kernel
theorem dX1_sentenceBegin_39 : decode cX1_sentenceBegin 39 = .ok (.getfield 15, 3) := by decide +kernel
theorem dX1_sentenceBegin_42 : decode cX1_sentenceBegin 42 = .ok (.iload_n 2, 1) := by decide +kernel
theorem dX1_sentenceBegin_43 : decode cX1_sentenceBegin 43 = .ok (.aload_n 0, 1) := by decide +kernel
theorem dX1_sentenceBegin_44 : decode cX1_sentenceBegin 44 = .ok (.getfield 42, 3) := by decide +kernel
theorem dX1_sentenceBegin_47 : decode cX1_sentenceBegin 47 = .ok (.invokestatic 91, 3) := by decide +kernel
theorem dX1_sentenceBegin_50 : decode cX1_sentenceBegin 50 = .ok (.istore 4, 2) := by decide +kernel
theorem dX1_sentenceBegin_52 : decode cX1_sentenceBegin 52 = .ok (.iload 4, 2) := by decide +kernel
theorem dX1_sentenceBegin_54 : decode cX1_sentenceBegin 54 = .ok (.ifCond .ge 5, 3) := by decide +kernel
theorem dX1_sentenceBegin_57 : decode cX1_sentenceBegin 57 = .ok (.iload_n 2, 1) := by decide +kernel
theorem dX1_sentenceBegin_58 : decode cX1_sentenceBegin 58 = .ok (.ireturn, 1) := by decide +kernel
theorem dX1_sentenceBegin_59 : decode cX1_sentenceBegin 59 = .ok (.iload 4, 2) := by decide +kernel
theorem dX1_sentenceBegin_61 : decode cX1_sentenceBegin 61 = .ok (.istore_n 2, 1) := by decide +kernel
theorem dX1_sentenceBegin_62 : decode cX1_sentenceBegin 62 = .ok (.iinc 3 1, 3) := by decide +kernel
theorem dX1_sentenceBegin_65 : decode cX1_sentenceBegin 65 = .ok (.goto (-61), 3) := by decide +kernel
theorem dX1_sentenceBegin_68 : decode cX1_sentenceBegin 68 = .ok (.iload_n 2, 1) := by decide +kernel
theorem dX1_sentenceBegin_69 : decode cX1_sentenceBegin 69 = .ok (.ireturn, 1) := by decide +kernel
theorem dX1_sentenceEnd_0 : decode cX1_sentenceEnd 0 = .ok (.iload_n 1, 1) := by decide +kernel
theorem dX1_sentenceEnd_1 : decode cX1_sentenceEnd 1 = .ok (.istore_n 2, 1) := by decide +kernel
theorem dX1_sentenceEnd_2 : decode cX1_sentenceEnd 2 = .ok (.iconst 0, 1) := by decide +kernel
theorem dX1_sentenceEnd_3 : decode cX1_sentenceEnd 3 = .ok (.istore_n 3, 1) := by decide +kernel
theorem dX1_sentenceEnd_4 : decode cX1_sentenceEnd 4 = .ok (.iload_n 3, 1) := by decide +kernel
theorem dX1_sentenceEnd_5 : decode cX1_sentenceEnd 5 = .ok (.aload_n 0, 1) := by decide +kernel
theorem dX1_sentenceEnd_6 : decode cX1_sentenceEnd 6 = .ok (.getfield 42, 3) := by decide +kernel
theorem dX1_sentenceEnd_9 : decode cX1_sentenceEnd 9 = .ok (.if_icmp .gt 114, 3) := by decide +kernel
theorem dX1_sentenceEnd_12 : decode cX1_sentenceEnd 12 = .ok (.iload_n 2, 1) := by decide +kernel
theorem dX1_sentenceEnd_13 : decode cX1_sentenceEnd 13 = .ok (.aload_n 0, 1) := by decide +kernel
theorem dX1_sentenceEnd_14 : decode cX1_sentenceEnd 14 = .ok (.getfield 42, 3) := by decide +kernel
theorem dX1_sentenceEnd_17 : decode cX1_sentenceEnd 17 = .ok (.if_icmp .ge 106, 3) := by decide +kernel
theorem dX1_sentenceEnd_20 : decode cX1_sentenceEnd 20 = .ok (.aload_n 0, 1) := by decide +kernel
theorem dX1_sentenceEnd_21 : decode cX1_sentenceEnd 21 = .ok (.getfield 15, 3) := by decide +kernel
theorem dX1_sentenceEnd_24 : decode cX1_sentenceEnd 24 = .ok (.iload_n 2, 1) := by decide +kernel
theorem dX1_sentenceEnd_25 : decode cX1_sentenceEnd 25 = .ok (.aload_n 0, 1) := by decide +kernel
theorem dX1_sentenceEnd_26 : decode cX1_sentenceEnd 26 = .ok (.getfield 42, 3) := by decide +kernel
theorem dX1_sentenceEnd_29 : decode cX1_sentenceEnd 29 = .ok (.invokestatic 94, 3) := by decide +kernel
theorem dX1_sentenceEnd_32 : decode cX1_sentenceEnd 32 = .ok (.ifCond .eq 22, 3) := by decide +kernel
theorem dX1_sentenceEnd_35 : decode cX1_sentenceEnd 35 = .ok (.aload_n 0, 1) := by decide +kernel
theorem dX1_sentenceEnd_36 : decode cX1_sentenceEnd 36 = .ok (.getfield 15, 3) := by decide +kernel
theorem dX1_sentenceEnd_39 : decode cX1_sentenceEnd 39 = .ok (.iload_n 2, 1) := by decide +kernel
theorem dX1_sentenceEnd_40 : decode cX1_sentenceEnd 40 = .ok (.aload_n 0, 1) := by decide +kernel
theorem dX1_sentenceEnd_41 : decode cX1_sentenceEnd 41 = .ok (.getfield 42, 3) := by decide +kernel
theorem dX1_sentenceEnd_44 : decode cX1_sentenceEnd 44 = .ok (.invokestatic 91, 3) := by decide +kernel
theorem dX1_sentenceEnd_47 : decode cX1_sentenceEnd 47 = .ok (.istore_n 2, 1) := by decide +kernel
theorem dX1_sentenceEnd_48 : decode cX1_sentenceEnd 48 = .ok (.iload_n 2, 1) := by decide +kernel
theorem dX1_sentenceEnd_49 : decode cX1_sentenceEnd 49 = .ok (.ifCond .ge 68, 3) := by decide +kernel
theorem dX1_sentenceEnd_52 : decode cX1_sentenceEnd 52 = .ok (.iconst (-1), 1) := by decide +kernel
theorem dX1_sentenceEnd_53 : decode cX1_sentenceEnd 53 = .ok (.ireturn, 1) := by decide +kernel
theorem dX1_sentenceEnd_54 : decode cX1_sentenceEnd 54 = .ok (.aload_n 0, 1) := by decide +kernel
theorem dX1_sentenceEnd_55 : decode cX1_sentenceEnd 55 = .ok (.getfield 15, 3) := by decide +kernel
theorem dX1_sentenceEnd_58 : decode cX1_sentenceEnd 58 = .ok (.iload_n 2, 1) := by decide +kernel
theorem dX1_sentenceEnd_59 : decode cX1_sentenceEnd 59 = .ok (.iaload, 1) := by decide +kernel
theorem dX1_sentenceEnd_60 : decode cX1_sentenceEnd 60 = .ok (.bipush 46, 2) := by decide +kernel
theorem dX1_sentenceEnd_62 : decode cX1_sentenceEnd 62 = .ok (.if_icmp .ne 7, 3) := by decide +kernel
theorem dX1_sentenceEnd_65 : decode cX1_sentenceEnd 65 = .ok (.iconst 1, 1) := by decide +kernel
theorem dX1_sentenceEnd_66 : decode cX1_sentenceEnd 66 = .ok (.goto 4, 3) := by decide +kernel
theorem dX1_sentenceEnd_69 : decode cX1_sentenceEnd 69 = .ok (.iconst 0, 1) := by decide +kernel
theorem dX1_sentenceEnd_70 : decode cX1_sentenceEnd 70 = .ok (.istore 4, 2) := by decide +kernel
theorem dX1_sentenceEnd_72 : decode cX1_sentenceEnd 72 = .ok (.iinc 2 1, 3) := by decide +kernel
theorem dX1_sentenceEnd_75 : decode cX1_sentenceEnd 75 = .ok (.iload 4, 2) := by decide +kernel
theorem dX1_sentenceEnd_77 : decode cX1_sentenceEnd 77 = .ok (.ifCond .eq 40, 3) := by decide +kernel
theorem dX1_sentenceEnd_80 : decode cX1_sentenceEnd 80 = .ok (.iload_n 2, 1) := by decide +kernel
theorem dX1_sentenceEnd_81 : decode cX1_sentenceEnd 81 = .ok (.aload_n 0, 1) := by decide +kernel
theorem dX1_sentenceEnd_82 : decode cX1_sentenceEnd 82 = .ok (.getfield 42, 3) := by decide +kernel
theorem dX1_sentenceEnd_85 : decode cX1_sentenceEnd 85 = .ok (.if_icmp .eq 30, 3) := by decide +kernel
theorem dX1_sentenceEnd_88 : decode cX1_sentenceEnd 88 = .ok (.aload_n 0, 1) := by decide +kernel
theorem dX1_sentenceEnd_89 : decode cX1_sentenceEnd 89 = .ok (.getfield 15, 3) := by decide +kernel
theorem dX1_sentenceEnd_92 : decode cX1_sentenceEnd 92 = .ok (.iload_n 2, 1) := by decide +kernel
theorem dX1_sentenceEnd_93 : decode cX1_sentenceEnd 93 = .ok (.iaload, 1) := by decide +kernel
theorem dX1_sentenceEnd_94 : decode cX1_sentenceEnd 94 = .ok (.invokestatic 87, 3) := by decide +kernel
theorem dX1_sentenceEnd_97 : decode cX1_sentenceEnd 97 = .ok (.ifCond .ne 18, 3) := by decide +kernel
theorem dX1_sentenceEnd_100 : decode cX1_sentenceEnd 100 = .ok (.aload_n 0, 1) := by decide +kernel
theorem dX1_sentenceEnd_101 : decode cX1_sentenceEnd 101 = .ok (.getfield 15, 3) := by decide +kernel
theorem dX1_sentenceEnd_104 : decode cX1_sentenceEnd 104 = .ok (.iload_n 2, 1) := by decide +kernel
theorem dX1_sentenceEnd_105 : decode cX1_sentenceEnd 105 = .ok (.aload_n 0, 1) := by decide +kernel
theorem dX1_sentenceEnd_106 : decode cX1_sentenceEnd 106 = .ok (.getfield 42, 3) := by decide +kernel
theorem dX1_sentenceEnd_109 : decode cX1_sentenceEnd 109 = .ok (.invokestatic 94, 3) := by decide +kernel
theorem dX1_sentenceEnd_112 : decode cX1_sentenceEnd 112 = .ok (.ifCond .eq 5, 3) := by decide +kernel
theorem dX1_sentenceEnd_115 : decode cX1_sentenceEnd 115 = .ok (.iload_n 2, 1) := by decide +kernel
theorem dX1_sentenceEnd_116 : decode cX1_sentenceEnd 116 = .ok (.ireturn, 1) := by decide +kernel
theorem dX1_sentenceEnd_117 : decode cX1_sentenceEnd 117 = .ok (.iinc 3 1, 3) := by decide +kernel
theorem dX1_sentenceEnd_120 : decode cX1_sentenceEnd 120 = .ok (.goto (-116), 3) := by decide +kernel
theorem dX1_sentenceEnd_123 : decode cX1_sentenceEnd 123 = .ok (.iconst (-1), 1) := by decide +kernel
theorem dX1_sentenceEnd_124 : decode cX1_sentenceEnd 124 = .ok (.ireturn, 1) := by decide +kernel
theorem dX1_placeOf_0 : decode cX1_placeOf 0 = .ok (.iload_n 1, 1) := by decide +kernel
theorem dX1_placeOf_1 : decode cX1_placeOf 1 = .ok (.ifCond .lt 7, 3) := by decide +kernel
theorem dX1_placeOf_4 : decode cX1_placeOf 4 = .ok (.iload_n 2, 1) := by decide +kernel
theorem dX1_placeOf_5 : decode cX1_placeOf 5 = .ok (.ifCond .ge 5, 3) := by decide +kernel
theorem dX1_placeOf_8 : decode cX1_placeOf 8 = .ok (.iconst (-1), 1) := by decide +kernel
theorem dX1_placeOf_9 : decode cX1_placeOf 9 = .ok (.ireturn, 1) := by decide +kernel
theorem dX1_placeOf_10 : decode cX1_placeOf 10 = .ok (.iconst 0, 1) := by decide +kernel
theorem dX1_placeOf_11 : decode cX1_placeOf 11 = .ok (.istore_n 3, 1) := by decide +kernel
theorem dX1_placeOf_12 : decode cX1_placeOf 12 = .ok (.iconst 0, 1) := by decide +kernel
theorem dX1_placeOf_13 : decode cX1_placeOf 13 = .ok (.istore 4, 2) := by decide +kernel
theorem dX1_placeOf_15 : decode cX1_placeOf 15 = .ok (.iload_n 3, 1) := by decide +kernel
theorem dX1_placeOf_16 : decode cX1_placeOf 16 = .ok (.aload_n 0, 1) := by decide +kernel
theorem dX1_placeOf_17 : decode cX1_placeOf 17 = .ok (.getfield 42, 3) := by decide +kernel
theorem dX1_placeOf_20 : decode cX1_placeOf 20 = .ok (.if_icmp .ge 26, 3) := by decide +kernel
theorem dX1_placeOf_23 : decode cX1_placeOf 23 = .ok (.iload 4, 2) := by decide +kernel
theorem dX1_placeOf_25 : decode cX1_placeOf 25 = .ok (.iload_n 1, 1) := by decide +kernel
theorem dX1_placeOf_26 : decode cX1_placeOf 26 = .ok (.if_icmp .ge 20, 3) := by decide +kernel
theorem dX1_placeOf_29 : decode cX1_placeOf 29 = .ok (.aload_n 0, 1) := by decide +kernel
theorem dX1_placeOf_30 : decode cX1_placeOf 30 = .ok (.iload_n 3, 1) := by decide +kernel
theorem dX1_placeOf_31 : decode cX1_placeOf 31 = .ok (.invokevirtual 108, 3) := by decide +kernel
theorem dX1_placeOf_34 : decode cX1_placeOf 34 = .ok (.ifCond .eq 6, 3) := by decide +kernel
theorem dX1_placeOf_37 : decode cX1_placeOf 37 = .ok (.iinc 4 1, 3) := by decide +kernel
theorem dX1_placeOf_40 : decode cX1_placeOf 40 = .ok (.iinc 3 1, 3) := by decide +kernel
theorem dX1_placeOf_43 : decode cX1_placeOf 43 = .ok (.goto (-28), 3) := by decide +kernel
theorem dX1_placeOf_46 : decode cX1_placeOf 46 = .ok (.iload 4, 2) := by decide +kernel
theorem dX1_placeOf_48 : decode cX1_placeOf 48 = .ok (.iload_n 1, 1) := by decide +kernel
theorem dX1_placeOf_49 : decode cX1_placeOf 49 = .ok (.if_icmp .ge 5, 3) := by decide +kernel
theorem dX1_placeOf_52 : decode cX1_placeOf 52 = .ok (.iconst (-1), 1) := by decide +kernel
theorem dX1_placeOf_53 : decode cX1_placeOf 53 = .ok (.ireturn, 1) := by decide +kernel
theorem dX1_placeOf_54 : decode cX1_placeOf 54 = .ok (.iload_n 3, 1) := by decide +kernel
theorem dX1_placeOf_55 : decode cX1_placeOf 55 = .ok (.istore 5, 2) := by decide +kernel
theorem dX1_placeOf_57 : decode cX1_placeOf 57 = .ok (.iload_n 3, 1) := by decide +kernel
theorem dX1_placeOf_58 : decode cX1_placeOf 58 = .ok (.aload_n 0, 1) := by decide +kernel
theorem dX1_placeOf_59 : decode cX1_placeOf 59 = .ok (.getfield 42, 3) := by decide +kernel
theorem dX1_placeOf_62 : decode cX1_placeOf 62 = .ok (.if_icmp .ge 39, 3) := by decide +kernel
theorem dX1_placeOf_65 : decode cX1_placeOf 65 = .ok (.iload_n 3, 1) := by decide +kernel
theorem dX1_placeOf_66 : decode cX1_placeOf 66 = .ok (.iload 5, 2) := by decide +kernel
theorem dX1_placeOf_68 : decode cX1_placeOf 68 = .ok (.isub, 1) := by decide +kernel
theorem dX1_placeOf_69 : decode cX1_placeOf 69 = .ok (.iload_n 2, 1) := by decide +kernel
theorem dX1_placeOf_70 : decode cX1_placeOf 70 = .ok (.if_icmp .ge 31, 3) := by decide +kernel
theorem dX1_placeOf_73 : decode cX1_placeOf 73 = .ok (.aload_n 0, 1) := by decide +kernel
theorem dX1_placeOf_74 : decode cX1_placeOf 74 = .ok (.getfield 15, 3) := by decide +kernel
theorem dX1_placeOf_77 : decode cX1_placeOf 77 = .ok (.iload_n 3, 1) := by decide +kernel
theorem dX1_placeOf_78 : decode cX1_placeOf 78 = .ok (.iaload, 1) := by decide +kernel
theorem dX1_placeOf_79 : decode cX1_placeOf 79 = .ok (.bipush 10, 2) := by decide +kernel
theorem dX1_placeOf_81 : decode cX1_placeOf 81 = .ok (.if_icmp .eq 20, 3) := by decide +kernel
theorem dX1_placeOf_84 : decode cX1_placeOf 84 = .ok (.aload_n 0, 1) := by decide +kernel
theorem dX1_placeOf_85 : decode cX1_placeOf 85 = .ok (.getfield 15, 3) := by decide +kernel
theorem dX1_placeOf_88 : decode cX1_placeOf 88 = .ok (.iload_n 3, 1) := by decide +kernel
theorem dX1_placeOf_89 : decode cX1_placeOf 89 = .ok (.iaload, 1) := by decide +kernel
theorem dX1_placeOf_90 : decode cX1_placeOf 90 = .ok (.bipush 13, 2) := by decide +kernel
theorem dX1_placeOf_92 : decode cX1_placeOf 92 = .ok (.if_icmp .eq 9, 3) := by decide +kernel
theorem dX1_placeOf_95 : decode cX1_placeOf 95 = .ok (.iinc 3 1, 3) := by decide +kernel
theorem dX1_placeOf_98 : decode cX1_placeOf 98 = .ok (.goto (-41), 3) := by decide +kernel
theorem dX1_placeOf_101 : decode cX1_placeOf 101 = .ok (.iload_n 3, 1) := by decide +kernel
theorem dX1_placeOf_102 : decode cX1_placeOf 102 = .ok (.ireturn, 1) := by decide +kernel
end
section
theorem dX1_keepChecked_0 : decode cX1_keepChecked 0 = .ok (.iconst 0, 1) := by decide +kernel
theorem dX1_keepChecked_1 : decode cX1_keepChecked 1 = .ok (.istore_n 1, 1) := by decide +kernel
theorem dX1_keepChecked_2 : decode cX1_keepChecked 2 = .ok (.iload_n 1, 1) := by decide +kernel
theorem dX1_keepChecked_3 : decode cX1_keepChecked 3 = .ok (.aload_n 0, 1) := by decide +kernel
theorem dX1_keepChecked_4 : decode cX1_keepChecked 4 = .ok (.getfield 72, 3) := by decide +kernel
theorem dX1_keepChecked_7 : decode cX1_keepChecked 7 = .ok (.if_icmp .ge 35, 3) := by decide +kernel
theorem dX1_keepChecked_10 : decode cX1_keepChecked 10 = .ok (.aload_n 0, 1) := by decide +kernel
theorem dX1_keepChecked_11 : decode cX1_keepChecked 11 = .ok (.getfield 32, 3) := by decide +kernel
theorem dX1_keepChecked_14 : decode cX1_keepChecked 14 = .ok (.iload_n 1, 1) := by decide +kernel
theorem dX1_keepChecked_15 : decode cX1_keepChecked 15 = .ok (.aaload, 1) := by decide +kernel
theorem dX1_keepChecked_16 : decode cX1_keepChecked 16 = .ok (.ifnull 26, 3) := by decide +kernel
theorem dX1_keepChecked_19 : decode cX1_keepChecked 19 = .ok (.aload_n 0, 1) := by decide +kernel
theorem dX1_keepChecked_20 : decode cX1_keepChecked 20 = .ok (.iload_n 1, 1) := by decide +kernel
theorem dX1_keepChecked_21 : decode cX1_keepChecked 21 = .ok (.aload_n 0, 1) := by decide +kernel
theorem dX1_keepChecked_22 : decode cX1_keepChecked 22 = .ok (.getfield 32, 3) := by decide +kernel
theorem dX1_keepChecked_25 : decode cX1_keepChecked 25 = .ok (.iload_n 1, 1) := by decide +kernel
theorem dX1_keepChecked_26 : decode cX1_keepChecked 26 = .ok (.aaload, 1) := by decide +kernel
theorem dX1_keepChecked_27 : decode cX1_keepChecked 27 = .ok (.getfield 98, 3) := by decide +kernel
theorem dX1_keepChecked_30 : decode cX1_keepChecked 30 = .ok (.invokevirtual 101, 3) := by decide +kernel
theorem dX1_keepChecked_33 : decode cX1_keepChecked 33 = .ok (.ifCond .eq 9, 3) := by decide +kernel
theorem dX1_keepChecked_36 : decode cX1_keepChecked 36 = .ok (.iinc 1 1, 3) := by decide +kernel
theorem dX1_keepChecked_39 : decode cX1_keepChecked 39 = .ok (.goto (-37), 3) := by decide +kernel
theorem dX1_keepChecked_42 : decode cX1_keepChecked 42 = .ok (.iload_n 1, 1) := by decide +kernel
theorem dX1_keepChecked_43 : decode cX1_keepChecked 43 = .ok (.aload_n 0, 1) := by decide +kernel
theorem dX1_keepChecked_44 : decode cX1_keepChecked 44 = .ok (.getfield 72, 3) := by decide +kernel
theorem dX1_keepChecked_47 : decode cX1_keepChecked 47 = .ok (.if_icmp .ne 26, 3) := by decide +kernel
theorem dX1_keepChecked_50 : decode cX1_keepChecked 50 = .ok (.aload_n 0, 1) := by decide +kernel
theorem dX1_keepChecked_51 : decode cX1_keepChecked 51 = .ok (.getfield 105, 3) := by decide +kernel
theorem dX1_keepChecked_54 : decode cX1_keepChecked 54 = .ok (.ifnull 19, 3) := by decide +kernel
theorem dX1_keepChecked_57 : decode cX1_keepChecked 57 = .ok (.aload_n 0, 1) := by decide +kernel
theorem dX1_keepChecked_58 : decode cX1_keepChecked 58 = .ok (.iload_n 1, 1) := by decide +kernel
theorem dX1_keepChecked_59 : decode cX1_keepChecked 59 = .ok (.aload_n 0, 1) := by decide +kernel
theorem dX1_keepChecked_60 : decode cX1_keepChecked 60 = .ok (.getfield 105, 3) := by decide +kernel
theorem dX1_keepChecked_63 : decode cX1_keepChecked 63 = .ok (.invokevirtual 101, 3) := by decide +kernel
theorem dX1_keepChecked_66 : decode cX1_keepChecked 66 = .ok (.ifCond .eq 7, 3) := by decide +kernel
theorem dX1_keepChecked_69 : decode cX1_keepChecked 69 = .ok (.iconst 1, 1) := by decide +kernel
theorem dX1_keepChecked_70 : decode cX1_keepChecked 70 = .ok (.goto 4, 3) := by decide +kernel
theorem dX1_keepChecked_73 : decode cX1_keepChecked 73 = .ok (.iconst 0, 1) := by decide +kernel
theorem dX1_keepChecked_74 : decode cX1_keepChecked 74 = .ok (.istore_n 2, 1) := by decide +kernel
theorem dX1_keepChecked_75 : decode cX1_keepChecked 75 = .ok (.aload_n 0, 1) := by decide +kernel
theorem dX1_keepChecked_76 : decode cX1_keepChecked 76 = .ok (.iload_n 1, 1) := by decide +kernel
theorem dX1_keepChecked_77 : decode cX1_keepChecked 77 = .ok (.putfield 72, 3) := by decide +kernel
theorem dX1_keepChecked_80 : decode cX1_keepChecked 80 = .ok (.iload_n 2, 1) := by decide +kernel
theorem dX1_keepChecked_81 : decode cX1_keepChecked 81 = .ok (.ireturn, 1) := by decide +kernel
end
section
theorem dX1_copyText_0 : decode cX1_copyText 0 = .ok (.aload_n 1, 1) := by decide +kernel
theorem dX1_copyText_1 : decode cX1_copyText 1 = .ok (.getfield 15, 3) := by decide +kernel
theorem dX1_copyText_4 : decode cX1_copyText 4 = .ok (.iconst 0, 1) := by decide +kernel
theorem dX1_copyText_5 : decode cX1_copyText 5 = .ok (.aload_n 0, 1) := by decide +kernel
theorem dX1_copyText_6 : decode cX1_copyText 6 = .ok (.getfield 15, 3) := by decide +kernel
theorem dX1_copyText_9 : decode cX1_copyText 9 = .ok (.iconst 0, 1) := by decide +kernel
theorem dX1_copyText_10 : decode cX1_copyText 10 = .ok (.sipush 1500, 3) := by decide +kernel
theorem dX1_copyText_13 : decode cX1_copyText 13 = .ok (.invokestatic 36, 3) := by decide +kernel
theorem dX1_copyText_16 : decode cX1_copyText 16 = .ok (.aload_n 0, 1) := by decide +kernel
theorem dX1_copyText_17 : decode cX1_copyText 17 = .ok (.aload_n 1, 1) := by decide +kernel
theorem dX1_copyText_18 : decode cX1_copyText 18 = .ok (.getfield 42, 3) := by decide +kernel
theorem dX1_copyText_21 : decode cX1_copyText 21 = .ok (.putfield 42, 3) := by decide +kernel
theorem dX1_copyText_24 : decode cX1_copyText 24 = .ok (.return_, 1) := by decide +kernel
theorem dX1_replace_0 : decode cX1_replace 0 = .ok (.aload_n 3, 1) := by decide +kernel
theorem dX1_replace_1 : decode cX1_replace 1 = .ok (.iload 4, 2) := by decide +kernel
theorem dX1_replace_3 : decode cX1_replace 3 = .ok (.invokevirtual 46, 3) := by decide +kernel
theorem dX1_replace_6 : decode cX1_replace 6 = .ok (.istore 5, 2) := by decide +kernel
theorem dX1_replace_8 : decode cX1_replace 8 = .ok (.aload_n 0, 1) := by decide +kernel
theorem dX1_replace_9 : decode cX1_replace 9 = .ok (.getfield 42, 3) := by decide +kernel
theorem dX1_replace_12 : decode cX1_replace 12 = .ok (.iload_n 2, 1) := by decide +kernel
theorem dX1_replace_13 : decode cX1_replace 13 = .ok (.isub, 1) := by decide +kernel
theorem dX1_replace_14 : decode cX1_replace 14 = .ok (.istore 6, 2) := by decide +kernel
theorem dX1_replace_16 : decode cX1_replace 16 = .ok (.iload_n 1, 1) := by decide +kernel
theorem dX1_replace_17 : decode cX1_replace 17 = .ok (.ifCond .lt 39, 3) := by decide +kernel
theorem dX1_replace_20 : decode cX1_replace 20 = .ok (.iload_n 2, 1) := by decide +kernel
theorem dX1_replace_21 : decode cX1_replace 21 = .ok (.iload_n 1, 1) := by decide +kernel
theorem dX1_replace_22 : decode cX1_replace 22 = .ok (.if_icmp .lt 34, 3) := by decide +kernel
theorem dX1_replace_25 : decode cX1_replace 25 = .ok (.iload 6, 2) := by decide +kernel
theorem dX1_replace_27 : decode cX1_replace 27 = .ok (.ifCond .lt 29, 3) := by decide +kernel
theorem dX1_replace_30 : decode cX1_replace 30 = .ok (.iload 5, 2) := by decide +kernel
theorem dX1_replace_32 : decode cX1_replace 32 = .ok (.ifCond .lt 24, 3) := by decide +kernel
theorem dX1_replace_35 : decode cX1_replace 35 = .ok (.iload 5, 2) := by decide +kernel
theorem dX1_replace_37 : decode cX1_replace 37 = .ok (.sipush 1500, 3) := by decide +kernel
theorem dX1_replace_40 : decode cX1_replace 40 = .ok (.if_icmp .gt 16, 3) := by decide +kernel
theorem dX1_replace_43 : decode cX1_replace 43 = .ok (.iload_n 1, 1) := by decide +kernel
theorem dX1_replace_44 : decode cX1_replace 44 = .ok (.iload 5, 2) := by decide +kernel
theorem dX1_replace_46 : decode cX1_replace 46 = .ok (.iadd, 1) := by decide +kernel
theorem dX1_replace_47 : decode cX1_replace 47 = .ok (.iload 6, 2) := by decide +kernel
theorem dX1_replace_49 : decode cX1_replace 49 = .ok (.iadd, 1) := by decide +kernel
theorem dX1_replace_50 : decode cX1_replace 50 = .ok (.sipush 1500, 3) := by decide +kernel
theorem dX1_replace_53 : decode cX1_replace 53 = .ok (.if_icmp .le 5, 3) := by decide +kernel
theorem dX1_replace_56 : decode cX1_replace 56 = .ok (.iconst 0, 1) := by decide +kernel
theorem dX1_replace_57 : decode cX1_replace 57 = .ok (.ireturn, 1) := by decide +kernel
theorem dX1_replace_58 : decode cX1_replace 58 = .ok (.aload_n 0, 1) := by decide +kernel
theorem dX1_replace_59 : decode cX1_replace 59 = .ok (.getfield 15, 3) := by decide +kernel
theorem dX1_replace_62 : decode cX1_replace 62 = .ok (.iload_n 2, 1) := by decide +kernel
theorem dX1_replace_63 : decode cX1_replace 63 = .ok (.aload_n 0, 1) := by decide +kernel
theorem dX1_replace_64 : decode cX1_replace 64 = .ok (.getfield 15, 3) := by decide +kernel
theorem dX1_replace_67 : decode cX1_replace 67 = .ok (.iload_n 1, 1) := by decide +kernel
theorem dX1_replace_68 : decode cX1_replace 68 = .ok (.iload 5, 2) := by decide +kernel
theorem dX1_replace_70 : decode cX1_replace 70 = .ok (.iadd, 1) := by decide +kernel
theorem dX1_replace_71 : decode cX1_replace 71 = .ok (.iload 6, 2) := by decide +kernel
theorem dX1_replace_73 : decode cX1_replace 73 = .ok (.invokestatic 36, 3) := by decide +kernel
theorem dX1_replace_76 : decode cX1_replace 76 = .ok (.iconst 0, 1) := by decide +kernel
theorem dX1_replace_77 : decode cX1_replace 77 = .ok (.istore 7, 2) := by decide +kernel
theorem dX1_replace_79 : decode cX1_replace 79 = .ok (.iload 7, 2) := by decide +kernel
theorem dX1_replace_81 : decode cX1_replace 81 = .ok (.iload 5, 2) := by decide +kernel
theorem dX1_replace_83 : decode cX1_replace 83 = .ok (.if_icmp .ge 26, 3) := by decide +kernel
theorem dX1_replace_86 : decode cX1_replace 86 = .ok (.aload_n 0, 1) := by decide +kernel
theorem dX1_replace_87 : decode cX1_replace 87 = .ok (.getfield 15, 3) := by decide +kernel
theorem dX1_replace_90 : decode cX1_replace 90 = .ok (.iload_n 1, 1) := by decide +kernel
theorem dX1_replace_91 : decode cX1_replace 91 = .ok (.iload 7, 2) := by decide +kernel
theorem dX1_replace_93 : decode cX1_replace 93 = .ok (.iadd, 1) := by decide +kernel
theorem dX1_replace_94 : decode cX1_replace 94 = .ok (.aload_n 3, 1) := by decide +kernel
theorem dX1_replace_95 : decode cX1_replace 95 = .ok (.iload 4, 2) := by decide +kernel
theorem dX1_replace_97 : decode cX1_replace 97 = .ok (.iload 7, 2) := by decide +kernel
theorem dX1_replace_99 : decode cX1_replace 99 = .ok (.invokevirtual 52, 3) := by decide +kernel
theorem dX1_replace_102 : decode cX1_replace 102 = .ok (.iastore, 1) := by decide +kernel
theorem dX1_replace_103 : decode cX1_replace 103 = .ok (.iinc 7 1, 3) := by decide +kernel
theorem dX1_replace_106 : decode cX1_replace 106 = .ok (.goto (-27), 3) := by decide +kernel
theorem dX1_replace_109 : decode cX1_replace 109 = .ok (.aload_n 0, 1) := by decide +kernel
theorem dX1_replace_110 : decode cX1_replace 110 = .ok (.iload_n 1, 1) := by decide +kernel
theorem dX1_replace_111 : decode cX1_replace 111 = .ok (.iload 5, 2) := by decide +kernel
theorem dX1_replace_113 : decode cX1_replace 113 = .ok (.iadd, 1) := by decide +kernel
theorem dX1_replace_114 : decode cX1_replace 114 = .ok (.iload 6, 2) := by decide +kernel
theorem dX1_replace_116 : decode cX1_replace 116 = .ok (.iadd, 1) := by decide +kernel
theorem dX1_replace_117 : decode cX1_replace 117 = .ok (.putfield 42, 3) := by decide +kernel
theorem dX1_replace_120 : decode cX1_replace 120 = .ok (.iconst 1, 1) := by decide +kernel
theorem dX1_replace_121 : decode cX1_replace 121 = .ok (.ireturn, 1) := by decide +kernel
end
section
def EX6_numberOfBt9 : List (Nat × Nat) := [(8, 3), (102, 0), (132, 0), (133, 0)]
set_option maxHeartbeats 4000000 in
set_option maxRecDepth 20000 in
theorem uX6_numberOfBt9 (l : Launch) (dC : Nat → ClassId) (dI : Nat → Nat → Nat) (ca : Nat → ClassId) (base : Nat) (B : jF) (hB : jBok B) (hAp : jAp (dC, dI)) (hB8 : ∀ n G a H, B 8 n G a H ↔ jOb (dC, dI) 8 4 (F8 n G) a H) (hB102 : ∀ n G a H, B 102 n G a H ↔ jAl (dC, dI) (ca 2) n a H) (hB132 : ∀ n G a H, B 132 n G a H ↔ jAr (dC, dI) (ca 1) (fun j z => 0 ≤ z.toInt ∧ z.toInt ≤ 10) n a H) (hB133 : ∀ n G a H, B 133 n G a H ↔ jAr (dC, dI) (ca 1) (fun j z => 0 ≤ z.toInt ∧ z.toInt ≤ 8192) n a H) (hB173 : ∀ n G a H, B 173 n G a H ↔ jAr (dC, dI) (ca 1) (fun j z => True) n a H) (G0 : jT) (H0 : Heap) (r0 : Nat) (r1 : Nat) (a2 : Int32) (a3 : Int32) (a4 : Int32) (n1 : Nat) (xs : Nat) (xp : Nat) (xl : Nat) : Met l yX6_numberOf (jw yX6_numberOf cX6_numberOf 10 (some .int)) ({ frames := 1, cells := 0, slots := 0, locals := 28 }) (va_Pc [.ref r0, .ref r1, .int a2, .int a3, .int a4] (fun U => U.heap = H0 ∧ jX B base G0 [] H0 ∧ jG dC dI ca base U ∧ G0 r0 = some (8, 0) ∧ G0 r1 = some (173, n1) ∧ G0 xs = some (102, 8192) ∧ G0 xp = some (132, 8192) ∧ G0 xl = some (133, 16384) ∧ jP (dC, dI) G0 H0 [(r0, 8, 0, .ref xs), (r0, 8, 1, .ref xp), (r0, 8, 2, .ref xl)] ∧ n1 < 2147483648)) (va_Qi (S := Unit) (fun r u => (-1 ≤ r.toInt ∧ r.toInt ≤ 8191)) (fun u t => (jRt (dC, dI) B base G0 EX6_numberOfBt9 H0 [] t.heap) ∧ jKl [r0, xs, xp, xl] H0 t.heap) (jA base)) 0 0 (jA base) := by
  refine Met.ofW (cc := cX6_numberOf) (maxL := 10) (ret := (some .int)) (by decide) rfl ?_
  intro p e s m args below meth c s₁ Bd hml hv
  obtain ⟨rfl, hH0, hX, hG, hg_r0, hg_r1, hg_xs, hg_xp, hg_xl, hP0, hp0⟩ := hv
  have hK := hG.1
  have hx := Bd.exec
  have hb := Bd.bytes
  have hr := Bd.returns
  have hts := atoms_spec (ws := (jw yX6_numberOf cX6_numberOf 10 (some .int))) Bd.pre
  have htw : ∀ w ∈ jWl, w.before _ s = true := fun w h => hts w (List.mem_cons_of_mem _ h)
  have hown : s.vm.findClass RX6 = some m.cls := findClass_of_methodNamed Bd.named
  have hlocks := Bd.notSynchronized
  obtain ⟨Q, hQ⟩ : ∃ Q, Q = MQ below (va_Qi (S := Unit) (fun r u => (-1 ≤ r.toInt ∧ r.toInt ≤ 8191)) (fun u t => (jRt (dC, dI) B base G0 EX6_numberOfBt9 H0 [] t.heap) ∧ jKl [r0, xs, xp, xl] H0 t.heap) (jA base)) ([.ref r0, .ref r1, .int a2, .int a3, .int a4] : List Value).toArray s 0 0 (jA base) := ⟨_, rfl⟩
  rw [← hQ]
  have hl := lv_entry ([.ref r0, .ref r1, .int a2, .int a3, .int a4]) (n := 10) (Nat.le_of_ble_eq_true rfl)
  rw [lg_entry_eq]
  generalize (lg_sl ([.ref r0, .ref r1, .int a2, .int a3, .int a4]) ++ List.replicate (10 - (lg_sl ([.ref r0, .ref r1, .int a2, .int a3, .int a4])).length) Slot.unset).toArray = ls at hl ⊢
  have hl : lv_has ls 10 [(0, .ref r0), (1, .ref r1), (2, .int a2), (3, .int a3), (4, .int a4)] := hl
  generalize hR : (headSpec (jw yX6_numberOf cX6_numberOf 10 (some .int)) ({ frames := 1, cells := 0, slots := 0, locals := 28 })).room = R
  subst hH0
  have hh : jSt (dC, dI) B base G0 G0 EX6_numberOfBt9 s.heap 0 0 [(r0, 8, 0, .ref xs), (r0, 8, 1, .ref xp), (r0, 8, 2, .ref xl)] [] [] s.heap [] := jSt.start hX hP0 jMc.nil jIs.nil
  clear hX hP0
  have hkm1 : ((-1) : Int32).toInt = (-1) := by decide
  have hk0 : (0 : Int32).toInt = 0 := by decide
  have hk1 : (1 : Int32).toInt = 1 := by decide
  have hk6 : (6 : Int32).toInt = 6 := by decide
  have hk10 : (10 : Int32).toInt = 10 := by decide
  have hk39 : (39 : Int32).toInt = 39 := by decide
  have hrg_a2 := jb_rng a2
  have hrg_a3 := jb_rng a3
  have hrg_a4 := jb_rng a4
  have hfl : jKl [r0, xs, xp, xl] s.heap s.heap := jKl.rf
  refine lv_iload_n hx hb dX6_numberOf_0 rfl (lv_at hl 2 rfl) ?_
  refine lv_if_lt (tgt := 32) hx hb dX6_numberOf_1 (by decide) (fun c_1 => ?_) (fun c_1 => ?_)
  · skip
    have c_1' : a2.toInt < 0 := jb_lt (rfl) ((by decide)) c_1
    refine lv_iconst (v := (-1)) hx hb dX6_numberOf_32 (by decide) ?_
    rw [hQ]
    exact W.iret (v := (-1)) hx hb hr (fun t ht hW => ⟨⟨(-1), (), rfl, by first | omega | (refine ⟨?_, ?_⟩ <;> (first | omega | rfl | assumption | decide | exact Or.inl rfl | exact Or.inr rfl | (simp only; omega))), ⟨hh.rt (M1 := []) [] rfl ht, by rw [ht]; exact hfl⟩⟩, by rw [ht]; try exact hh.1.1, fun q h9 hq => by rw [ht]; try exact hh.1.2.1 q h9 hq⟩) hh.1.2.2 dX6_numberOf_33
  · skip
    have c_1' : a2.toInt ≥ 0 := jb_lt_n (rfl) ((by decide)) c_1
    refine lv_iload_n hx hb dX6_numberOf_4 rfl (lv_at hl 3 rfl) ?_
    refine lv_aload_n hx hb dX6_numberOf_5 rfl (lv_at hl 1 rfl) ?_
    refine j7_len hx hb hK hh hB173 1 rfl (by decide) hg_r1 (by omega) dX6_numberOf_6 (fun z_2 hz_2 => ?_)
    refine lv_icmp_gt (tgt := 32) hx hb dX6_numberOf_7 (by decide) (fun c_3 => ?_) (fun c_3 => ?_)
    · skip
      have c_3' : a3.toInt > z_2.toInt := jb_gt (rfl) (rfl) c_3
      refine lv_iconst (v := (-1)) hx hb dX6_numberOf_32 (by decide) ?_
      rw [hQ]
      exact W.iret (v := (-1)) hx hb hr (fun t ht hW => ⟨⟨(-1), (), rfl, by first | omega | (refine ⟨?_, ?_⟩ <;> (first | omega | rfl | assumption | decide | exact Or.inl rfl | exact Or.inr rfl | (simp only; omega))), ⟨hh.rt (M1 := []) [] rfl ht, by rw [ht]; exact hfl⟩⟩, by rw [ht]; try exact hh.1.1, fun q h9 hq => by rw [ht]; try exact hh.1.2.1 q h9 hq⟩) hh.1.2.2 dX6_numberOf_33
    · skip
      have c_3' : a3.toInt ≤ z_2.toInt := jb_gt_n (rfl) (rfl) c_3
      refine lv_iload_n hx hb dX6_numberOf_10 rfl (lv_at hl 2 rfl) ?_
      refine lv_iload_n hx hb dX6_numberOf_11 rfl (lv_at hl 3 rfl) ?_
      refine lv_icmp_ge (tgt := 32) hx hb dX6_numberOf_12 (by decide) (fun c_4 => ?_) (fun c_4 => ?_)
      · skip
        have c_4' : a2.toInt ≥ a3.toInt := jb_ge (rfl) (rfl) c_4
        refine lv_iconst (v := (-1)) hx hb dX6_numberOf_32 (by decide) ?_
        rw [hQ]
        exact W.iret (v := (-1)) hx hb hr (fun t ht hW => ⟨⟨(-1), (), rfl, by first | omega | (refine ⟨?_, ?_⟩ <;> (first | omega | rfl | assumption | decide | exact Or.inl rfl | exact Or.inr rfl | (simp only; omega))), ⟨hh.rt (M1 := []) [] rfl ht, by rw [ht]; exact hfl⟩⟩, by rw [ht]; try exact hh.1.1, fun q h9 hq => by rw [ht]; try exact hh.1.2.1 q h9 hq⟩) hh.1.2.2 dX6_numberOf_33
      · skip
        have c_4' : a2.toInt < a3.toInt := jb_ge_n (rfl) (rfl) c_4
        refine lv_iload_n hx hb dX6_numberOf_15 rfl (lv_at hl 3 rfl) ?_
        refine lv_iload_n hx hb dX6_numberOf_16 rfl (lv_at hl 2 rfl) ?_
        refine lv_isub hx hb dX6_numberOf_17 ?_
        refine lv_topi (fun z_5 ez_5 => ?_)
        have hz_5 : z_5.toInt = a3.toInt - a2.toInt := by rw [ez_5]; exact jb_isub2 (rfl) (rfl) (by omega)
        refine lv_bipush (v := 10) hx hb dX6_numberOf_18 (by decide) ?_
        refine lv_icmp_gt (tgt := 32) hx hb dX6_numberOf_20 (by decide) (fun c_6 => ?_) (fun c_6 => ?_)
        · skip
          have c_6' : z_5.toInt > 10 := jb_gt (rfl) ((by decide)) c_6
          refine lv_iconst (v := (-1)) hx hb dX6_numberOf_32 (by decide) ?_
          rw [hQ]
          exact W.iret (v := (-1)) hx hb hr (fun t ht hW => ⟨⟨(-1), (), rfl, by first | omega | (refine ⟨?_, ?_⟩ <;> (first | omega | rfl | assumption | decide | exact Or.inl rfl | exact Or.inr rfl | (simp only; omega))), ⟨hh.rt (M1 := []) [] rfl ht, by rw [ht]; exact hfl⟩⟩, by rw [ht]; try exact hh.1.1, fun q h9 hq => by rw [ht]; try exact hh.1.2.1 q h9 hq⟩) hh.1.2.2 dX6_numberOf_33
        · skip
          have c_6' : z_5.toInt ≤ 10 := jb_gt_n (rfl) ((by decide)) c_6
          refine lv_aload_n hx hb dX6_numberOf_23 rfl (lv_at hl 1 rfl) ?_
          refine lv_iload_n hx hb dX6_numberOf_24 rfl (lv_at hl 2 rfl) ?_
          refine j7_iald hx hb hK hh hB173 1 rfl (by decide) hg_r1 (x := a2.toInt) (rfl) (by omega) dX6_numberOf_25 (fun z_7 (hz_7 : True) => ?_)
          refine vp_callSi (va_Run.run (va_runSN (As := [.int z_7]) (rest := []) ⟨hx, hb, hml, hown, hts⟩ (wX11_isLetter l dC dI ca base s.heap z_7) ⟨va_cnB 1 hts (jgW (jWr_7 _ (List.mem_of_getElem? (i := 18) rfl))) rfl rfl rfl (hG.2.2.1 RX6 38 yX11_isLetter "ProofServer" (List.mem_of_getElem? (i := 217) (by decide +kernel))) (htw (.initialized RX11) (jWr_1 _ (List.mem_of_getElem? (i := 2) rfl))) (by decide +kernel) ⟨by rw [← hR]; exact Nat.le_of_ble_eq_true rfl, by rw [← hR]; exact Nat.le_of_ble_eq_true rfl⟩, htw (.static yX11_isLetter) (jWr_7 _ (List.mem_of_getElem? (i := 17) rfl)), trivial⟩ ⟨fun a U g mk q => by obtain ⟨q0, q1, qK, q9⟩ := q; exact ⟨q0, q1, jG.calling g mk a qK, q9⟩, fun U hU hW => ⟨rfl, hU, hG.step hW hU hh.1, by first | trivial | omega | (constructor <;> omega)⟩⟩ rfl rfl hl.1 rfl (lv_room (Nat.le_of_ble_eq_true rfl)) dX6_numberOf_26 ⟨Nat.zero_le _, Nat.zero_le _⟩)) (fun r_8 hr_8 => ?_)
          have hr_8' : r_8.toInt = 0 ∨ r_8.toInt = 1 := jb_01 hr_8
          refine lv_if_ne (tgt := 34) hx hb dX6_numberOf_29 (by decide) (fun c_9 => ?_) (fun c_9 => ?_)
          · skip
            have c_9' : r_8.toInt ≠ 0 := jb_ne (rfl) ((by decide)) c_9
            refine lv_iload_n hx hb dX6_numberOf_34 rfl (lv_at hl 3 rfl) ?_
            refine lv_istore (lv' := [(5, .int a3), (0, .ref r0), (1, .ref r1), (2, .int a2), (3, .int a3), (4, .int a4)]) hx hb dX6_numberOf_35 hl (by decide) rfl (fun ls hl => ?_)
            have L37 : ∀ (N : Nat) (v5_10 : Int32) (H_10 : Heap) (locs_10 : List Loc), jSt (dC, dI) B base G0 G0 EX6_numberOfBt9 s.heap 0 0 [(r0, 8, 0, .ref xs), (r0, 8, 1, .ref xp), (r0, 8, 2, .ref xl)] [] [] H_10 locs_10 → jKl [r0, xs, xp, xl] s.heap H_10 → (a2.toInt ≤ v5_10.toInt ∧ v5_10.toInt ≤ a3.toInt) → (v5_10.toInt - a2.toInt : Int) < N → ∀ ls : Array Slot, lv_has ls 10 [(0, .ref r0), (1, .ref r1), (2, .int a2), (3, .int a3), (4, .int a4), (5, .int v5_10)] → W p l e R s m ([.ref r0, .ref r1, .int a2, .int a3, .int a4] : List Value).toArray below meth c H_10 locs_10 0 0 Q (F0 m 37 ls []) := by
              intro N
              induction N with
              | zero => intro v5_10 H_10 locs_10 hh_10 hfl_10 hi_10 hm; exact absurd hm (by omega)
              | succ N L37 =>
                intro v5_10 H_10 locs_10 hh_10 hfl_10 hi_10 hm_10 ls hl
                obtain ⟨hi_10_0, hi_10_1⟩ := hi_10
                refine lv_iload hx hb dX6_numberOf_37 (lv_at hl 5 rfl) ?_
                refine lv_iload_n hx hb dX6_numberOf_39 rfl (lv_at hl 2 rfl) ?_
                refine lv_icmp_le (tgt := 60) hx hb dX6_numberOf_40 (by decide) (fun c_11 => ?_) (fun c_11 => ?_)
                · skip
                  have c_11' : v5_10.toInt ≤ a2.toInt := jb_le (rfl) (rfl) c_11
                  refine lv_lconst (v := 1) hx hb dX6_numberOf_60 (by decide) ?_
                  refine lv_lstore (lv' := [(6, .long 1), (0, .ref r0), (1, .ref r1), (2, .int a2), (3, .int a3), (4, .int a4), (5, .int v5_10)]) hx hb dX6_numberOf_61 hl (by decide) rfl (fun ls hl => ?_)
                  refine lv_iload hx hb dX6_numberOf_63 (lv_at hl 6 rfl) ?_
                  refine lv_iconst (v := 1) hx hb dX6_numberOf_65 (by decide) ?_
                  refine lv_isub hx hb dX6_numberOf_66 ?_
                  refine lv_topi (fun z_12 ez_12 => ?_)
                  have hz_12 : z_12.toInt = v5_10.toInt - 1 := by rw [ez_12]; exact jb_isub2 (rfl) ((by decide)) (by omega)
                  refine lv_istore (lv' := [(8, .int z_12), (6, .long 1), (0, .ref r0), (1, .ref r1), (2, .int a2), (3, .int a3), (4, .int a4), (5, .int v5_10)]) hx hb dX6_numberOf_67 hl (by decide) rfl (fun ls hl => ?_)
                  have L69 : ∀ (N : Nat) (v6_13 : Int64) (v8_13 : Int32) (H_13 : Heap) (locs_13 : List Loc), jSt (dC, dI) B base G0 G0 EX6_numberOfBt9 s.heap 0 0 [(r0, 8, 0, .ref xs), (r0, 8, 1, .ref xp), (r0, 8, 2, .ref xl)] [] [] H_13 locs_13 → jKl [r0, xs, xp, xl] s.heap H_13 → (a2.toInt - 1 ≤ v8_13.toInt ∧ v8_13.toInt < a3.toInt) → (v8_13.toInt + 1 - a2.toInt : Int) < N → ∀ ls : Array Slot, lv_has ls 10 [(0, .ref r0), (1, .ref r1), (2, .int a2), (3, .int a3), (4, .int a4), (5, .int v5_10), (6, .long v6_13), (8, .int v8_13)] → W p l e R s m ([.ref r0, .ref r1, .int a2, .int a3, .int a4] : List Value).toArray below meth c H_13 locs_13 0 0 Q (F0 m 69 ls []) := by
                    intro N
                    induction N with
                    | zero => intro v6_13 v8_13 H_13 locs_13 hh_13 hfl_13 hi_13 hm; exact absurd hm (by omega)
                    | succ N L69 =>
                      intro v6_13 v8_13 H_13 locs_13 hh_13 hfl_13 hi_13 hm_13 ls hl
                      obtain ⟨hi_13_0, hi_13_1⟩ := hi_13
                      refine lv_iload hx hb dX6_numberOf_69 (lv_at hl 7 rfl) ?_
                      refine lv_iload_n hx hb dX6_numberOf_71 rfl (lv_at hl 2 rfl) ?_
                      refine lv_icmp_lt (tgt := 108) hx hb dX6_numberOf_72 (by decide) (fun c_14 => ?_) (fun c_14 => ?_)
                      · skip
                        have c_14' : v8_13.toInt < a2.toInt := jb_lt (rfl) (rfl) c_14
                        refine lv_aload_n hx hb dX6_numberOf_108 rfl (lv_at hl 0 rfl) ?_
                        refine lv_lload hx hb dX6_numberOf_109 (lv_at hl 6 rfl) ?_
                        refine lv_iload_n hx hb dX6_numberOf_111 rfl (lv_at hl 3 rfl) ?_
                        refine lv_iload hx hb dX6_numberOf_112 (lv_at hl 5 rfl) ?_
                        refine lv_isub hx hb dX6_numberOf_114 ?_
                        refine lv_topi (fun z_15 ez_15 => ?_)
                        have hz_15 : z_15.toInt = a3.toInt - v5_10.toInt := by rw [ez_15]; exact jb_isub2 (rfl) (rfl) (by omega)
                        refine lv_iload hx hb dX6_numberOf_115 (lv_at hl 4 rfl) ?_
                        refine va_calli (A0 := jA base) (H0 := s.heap) (va_runV (As := [.long v6_13, .int z_15, .int a4]) (rest := []) ⟨hx, hb, hml, hown, hts⟩ (uX6_findB l dC dI ca base B hB hAp hB8 hB102 hB132 hB133 G0 H_13 r0 v6_13 z_15 a4 xs xp xl) (cwV 3 hts (jgV (jWr_7 _ (List.mem_of_getElem? (i := 22) rfl)) (jWr_7 _ (List.mem_of_getElem? (i := 23) rfl)) (jWr_8 _ (List.mem_of_getElem? (i := 0) rfl)) (jWr_4 _ (List.mem_of_getElem? (i := 10) rfl)) (jWr_8 _ (List.mem_of_getElem? (i := 1) rfl))) rfl rfl rfl (by decide +kernel) ⟨by rw [← hR]; exact Nat.le_of_ble_eq_true rfl, by rw [← hR]; exact Nat.le_of_ble_eq_true rfl⟩) ⟨fun a U g mk q => by obtain ⟨q0, q1, q2, qK, q10, q11, q12, q13, q14, q15⟩ := q; exact ⟨q0, q1, q2, jG.calling g mk a qK, q10, q11, q12, q13, q14, q15⟩, hh_13.recv (C := RX6) (T := TX6) (N := 4) hB8 rfl (by decide) hg_r0 hK, fun U hU hW => ⟨rfl, hU, hh_13.2.1, hG.step hW hU hh_13.1, hg_r0, hg_xs, hg_xp, hg_xl, (hh_13.2.2.1.sub (L1 := [(r0, 8, 0, .ref xs), (r0, 8, 1, .ref xp), (r0, 8, 2, .ref xl)]) [0, 1, 2] rfl), by first | omega | (refine ⟨?_, ?_⟩ <;> (first | omega | rfl | assumption | decide | exact Or.inl rfl | exact Or.inr rfl | (simp only; omega)))⟩⟩ rfl rfl hl.1 rfl (lv_room (Nat.le_of_ble_eq_true rfl)) dX6_numberOf_117 ⟨Nat.zero_le _, Nat.zero_le _⟩) hh_13.1 (fun q _ h => h) (fun q h => h) (fun r_17 u_16 t_16 H_16 locs_16 ht_16 hvm_16 hr_17 hb_16 hz_16 hk_16 hS_16 => ?_)
                        rw [ht_16] at hb_16
                        obtain ⟨hb_16, hbF_16⟩ := hb_16
                        obtain ⟨hb_161, hb_162, hb_163, hb_164, hb_165⟩ := hb_16
                        have hh_16 : jSt (dC, dI) B base G0 G0 EX6_numberOfBt9 s.heap 0 0 [(r0, 8, 0, .ref xs), (r0, 8, 1, .ref xp), (r0, 8, 2, .ref xl)] [] [] H_16 locs_16 := ((hh_13.call hb_161 hb_162 hb_163 hb_164 hS_16 rfl (L1 := [(r0, 8, 0, .ref xs), (r0, 8, 1, .ref xp), (r0, 8, 2, .ref xl)]) [0, 1, 2] rfl rfl (M1 := []) [] rfl rfl (I1 := []) [] rfl rfl).more hb_165)
                        clear hh_13 ht_16 hvm_16 hz_16 hk_16 hS_16 hb_161 hb_162 hb_163 hb_164 hb_165
                        have hfl_18 := hfl_13.tr hbF_16 (by first | exact fun q h => h | (intro q h9; simp at h9 ⊢; exact h9) | (intro q h9; simp at h9))
                        obtain ⟨hr_17_0, hr_17_1⟩ := hr_17
                        rw [hQ]
                        exact W.iret (v := r_17) hx hb hr (fun t ht hW => ⟨⟨r_17, (), rfl, by first | omega | (refine ⟨?_, ?_⟩ <;> (first | omega | rfl | assumption | decide | exact Or.inl rfl | exact Or.inr rfl | (simp only; omega))), ⟨hh_16.rt (M1 := []) [] rfl ht, by rw [ht]; exact hfl_18⟩⟩, by rw [ht]; try exact hh_16.1.1, fun q h9 hq => by rw [ht]; try exact hh_16.1.2.1 q h9 hq⟩) hh_16.1.2.2 dX6_numberOf_120
                      · skip
                        have c_14' : v8_13.toInt ≥ a2.toInt := jb_lt_n (rfl) (rfl) c_14
                        refine lv_aload_n hx hb dX6_numberOf_75 rfl (lv_at hl 1 rfl) ?_
                        refine lv_iload hx hb dX6_numberOf_76 (lv_at hl 7 rfl) ?_
                        refine j7_iald hx hb hK hh_13 hB173 1 rfl (by decide) hg_r1 (x := v8_13.toInt) (rfl) (by omega) dX6_numberOf_78 (fun z_19 (hz_19 : True) => ?_)
                        refine vp_callSi (W.runS (As := [.int z_19]) (rest := []) ⟨hx, hb, hml, hown, hts⟩ (wX6_signOf l dC dI ca base H_13 z_19) (va_cwS 1 hts (jgS (jWr_7 _ (List.mem_of_getElem? (i := 19) rfl)) (jWr_7 _ (List.mem_of_getElem? (i := 20) rfl)) (jWr_4 _ (List.mem_of_getElem? (i := 10) rfl)) (jWr_7 _ (List.mem_of_getElem? (i := 21) rfl))) rfl rfl rfl (by decide +kernel) ⟨by rw [← hR]; exact Nat.le_of_ble_eq_true rfl, by rw [← hR]; exact Nat.le_of_ble_eq_true rfl⟩) ⟨fun a U g mk q => by obtain ⟨q0, q1, qK, q9⟩ := q; exact ⟨q0, q1, jG.calling g mk a qK, q9⟩, fun U hU hW => ⟨rfl, hU, hG.step hW hU hh_13.1, by first | trivial | omega | (constructor <;> omega)⟩⟩ rfl rfl hl.1 rfl (lv_room (Nat.le_of_ble_eq_true rfl)) dX6_numberOf_79 ⟨Nat.zero_le _, Nat.zero_le _⟩) (fun r_20 hr_20 => ?_)
                        refine lv_istore (lv' := [(9, .int r_20), (0, .ref r0), (1, .ref r1), (2, .int a2), (3, .int a3), (4, .int a4), (5, .int v5_10), (6, .long v6_13), (8, .int v8_13)]) hx hb dX6_numberOf_82 hl (by decide) rfl (fun ls hl => ?_)
                        refine lv_iload hx hb dX6_numberOf_84 (lv_at hl 0 rfl) ?_
                        refine lv_if_ge (tgt := 91) hx hb dX6_numberOf_86 (by decide) (fun c_21 => ?_) (fun c_21 => ?_)
                        · skip
                          have c_21' : r_20.toInt ≥ 0 := jb_ge (rfl) ((by decide)) c_21
                          refine lv_lload hx hb dX6_numberOf_91 (lv_at hl 7 rfl) ?_
                          refine lv_bipush (v := 6) hx hb dX6_numberOf_93 (by decide) ?_
                          refine lv_lshl hx hb dX6_numberOf_95 rfl ?_
                          refine lv_topl (fun z_22 ez_22 => ?_)
                          refine lv_iload hx hb dX6_numberOf_96 (lv_at hl 0 rfl) ?_
                          refine lv_i2l hx hb dX6_numberOf_98 rfl ?_
                          refine lv_topl (fun z_23 ez_23 => ?_)
                          refine lv_lor hx hb dX6_numberOf_99 ?_
                          refine lv_topl (fun z_24 ez_24 => ?_)
                          refine lv_lstore (lv' := [(6, .long z_24), (9, .int r_20), (0, .ref r0), (1, .ref r1), (2, .int a2), (3, .int a3), (4, .int a4), (5, .int v5_10), (8, .int v8_13)]) hx hb dX6_numberOf_100 hl (by decide) rfl (fun ls hl => ?_)
                          obtain ⟨z_25, ez_25⟩ : ∃ y : Int32, y = v8_13 + (-1) := ⟨_, rfl⟩
                          refine lv_iinc (v := z_25) (lv' := [(8, .int z_25), (6, .long z_24), (9, .int r_20), (0, .ref r0), (1, .ref r1), (2, .int a2), (3, .int a3), (4, .int a4), (5, .int v5_10)]) hx hb dX6_numberOf_102 hl (k := 8) rfl (by rw [ez_25]; rfl) (by decide) rfl (fun ls hl => ?_)
                          have hz_25 : z_25.toInt = v8_13.toInt + (-1) := by rw [ez_25]; exact jb_iadd2 (rfl) (by decide) (by omega)
                          refine lv_goto (tgt := 69) hx hb dX6_numberOf_105 (by decide) ?_
                          exact L69 z_24 z_25 _ _ hh_13 (hfl_13) (by first | omega | (refine ⟨?_, ?_⟩ <;> (first | omega | rfl | assumption | decide | exact Or.inl rfl | exact Or.inr rfl | (simp only; omega)))) (by omega) _ (lv_sub hl [3, 4, 5, 6, 7, 8, 1, 0] rfl)
                        · skip
                          have c_21' : r_20.toInt < 0 := jb_ge_n (rfl) ((by decide)) c_21
                          refine lv_iconst (v := (-1)) hx hb dX6_numberOf_89 (by decide) ?_
                          rw [hQ]
                          exact W.iret (v := (-1)) hx hb hr (fun t ht hW => ⟨⟨(-1), (), rfl, by first | omega | (refine ⟨?_, ?_⟩ <;> (first | omega | rfl | assumption | decide | exact Or.inl rfl | exact Or.inr rfl | (simp only; omega))), ⟨hh_13.rt (M1 := []) [] rfl ht, by rw [ht]; exact hfl_13⟩⟩, by rw [ht]; try exact hh_13.1.1, fun q h9 hq => by rw [ht]; try exact hh_13.1.2.1 q h9 hq⟩) hh_13.1.2.2 dX6_numberOf_90
                  exact L69 ((z_12 : Int32).toInt + 1 - a2.toInt : Int).toNat.succ 1 z_12 _ _ hh_10 (hfl_10) (by first | omega | (refine ⟨?_, ?_⟩ <;> (first | omega | rfl | assumption | decide | exact Or.inl rfl | exact Or.inr rfl | (simp only; omega)))) (by omega) _ (lv_sub hl [2, 3, 4, 5, 6, 7, 1, 0] rfl)
                · skip
                  have c_11' : v5_10.toInt > a2.toInt := jb_le_n (rfl) (rfl) c_11
                  refine lv_aload_n hx hb dX6_numberOf_43 rfl (lv_at hl 1 rfl) ?_
                  refine lv_iload hx hb dX6_numberOf_44 (lv_at hl 5 rfl) ?_
                  refine lv_iconst (v := 1) hx hb dX6_numberOf_46 (by decide) ?_
                  refine lv_isub hx hb dX6_numberOf_47 ?_
                  refine lv_topi (fun z_26 ez_26 => ?_)
                  have hz_26 : z_26.toInt = v5_10.toInt - 1 := by rw [ez_26]; exact jb_isub2 (rfl) ((by decide)) (by omega)
                  refine j7_iald hx hb hK hh_10 hB173 1 rfl (by decide) hg_r1 (x := z_26.toInt) (rfl) (by omega) dX6_numberOf_48 (fun z_27 (hz_27 : True) => ?_)
                  refine lv_bipush (v := 39) hx hb dX6_numberOf_49 (by decide) ?_
                  refine lv_icmp_ne (tgt := 60) hx hb dX6_numberOf_51 (by decide) (fun c_28 => ?_) (fun c_28 => ?_)
                  · skip
                    have c_28' : z_27.toInt ≠ 39 := jb_ne (rfl) ((by decide)) c_28
                    refine lv_lconst (v := 1) hx hb dX6_numberOf_60 (by decide) ?_
                    refine lv_lstore (lv' := [(6, .long 1), (0, .ref r0), (1, .ref r1), (2, .int a2), (3, .int a3), (4, .int a4), (5, .int v5_10)]) hx hb dX6_numberOf_61 hl (by decide) rfl (fun ls hl => ?_)
                    refine lv_iload hx hb dX6_numberOf_63 (lv_at hl 6 rfl) ?_
                    refine lv_iconst (v := 1) hx hb dX6_numberOf_65 (by decide) ?_
                    refine lv_isub hx hb dX6_numberOf_66 ?_
                    refine lv_topi (fun z_29 ez_29 => ?_)
                    have hz_29 : z_29.toInt = v5_10.toInt - 1 := by rw [ez_29]; exact jb_isub2 (rfl) ((by decide)) (by omega)
                    refine lv_istore (lv' := [(8, .int z_29), (6, .long 1), (0, .ref r0), (1, .ref r1), (2, .int a2), (3, .int a3), (4, .int a4), (5, .int v5_10)]) hx hb dX6_numberOf_67 hl (by decide) rfl (fun ls hl => ?_)
                    have L69 : ∀ (N : Nat) (v6_30 : Int64) (v8_30 : Int32) (H_30 : Heap) (locs_30 : List Loc), jSt (dC, dI) B base G0 G0 EX6_numberOfBt9 s.heap 0 0 [(r0, 8, 0, .ref xs), (r0, 8, 1, .ref xp), (r0, 8, 2, .ref xl)] [] [] H_30 locs_30 → jKl [r0, xs, xp, xl] s.heap H_30 → (a2.toInt - 1 ≤ v8_30.toInt ∧ v8_30.toInt < a3.toInt) → (v8_30.toInt + 1 - a2.toInt : Int) < N → ∀ ls : Array Slot, lv_has ls 10 [(0, .ref r0), (1, .ref r1), (2, .int a2), (3, .int a3), (4, .int a4), (5, .int v5_10), (6, .long v6_30), (8, .int v8_30)] → W p l e R s m ([.ref r0, .ref r1, .int a2, .int a3, .int a4] : List Value).toArray below meth c H_30 locs_30 0 0 Q (F0 m 69 ls []) := by
                      intro N
                      induction N with
                      | zero => intro v6_30 v8_30 H_30 locs_30 hh_30 hfl_30 hi_30 hm; exact absurd hm (by omega)
                      | succ N L69 =>
                        intro v6_30 v8_30 H_30 locs_30 hh_30 hfl_30 hi_30 hm_30 ls hl
                        obtain ⟨hi_30_0, hi_30_1⟩ := hi_30
                        refine lv_iload hx hb dX6_numberOf_69 (lv_at hl 7 rfl) ?_
                        refine lv_iload_n hx hb dX6_numberOf_71 rfl (lv_at hl 2 rfl) ?_
                        refine lv_icmp_lt (tgt := 108) hx hb dX6_numberOf_72 (by decide) (fun c_31 => ?_) (fun c_31 => ?_)
                        · skip
                          have c_31' : v8_30.toInt < a2.toInt := jb_lt (rfl) (rfl) c_31
                          refine lv_aload_n hx hb dX6_numberOf_108 rfl (lv_at hl 0 rfl) ?_
                          refine lv_lload hx hb dX6_numberOf_109 (lv_at hl 6 rfl) ?_
                          refine lv_iload_n hx hb dX6_numberOf_111 rfl (lv_at hl 3 rfl) ?_
                          refine lv_iload hx hb dX6_numberOf_112 (lv_at hl 5 rfl) ?_
                          refine lv_isub hx hb dX6_numberOf_114 ?_
                          refine lv_topi (fun z_32 ez_32 => ?_)
                          have hz_32 : z_32.toInt = a3.toInt - v5_10.toInt := by rw [ez_32]; exact jb_isub2 (rfl) (rfl) (by omega)
                          refine lv_iload hx hb dX6_numberOf_115 (lv_at hl 4 rfl) ?_
                          refine va_calli (A0 := jA base) (H0 := s.heap) (va_runV (As := [.long v6_30, .int z_32, .int a4]) (rest := []) ⟨hx, hb, hml, hown, hts⟩ (uX6_findB l dC dI ca base B hB hAp hB8 hB102 hB132 hB133 G0 H_30 r0 v6_30 z_32 a4 xs xp xl) (cwV 3 hts (jgV (jWr_7 _ (List.mem_of_getElem? (i := 22) rfl)) (jWr_7 _ (List.mem_of_getElem? (i := 23) rfl)) (jWr_8 _ (List.mem_of_getElem? (i := 0) rfl)) (jWr_4 _ (List.mem_of_getElem? (i := 10) rfl)) (jWr_8 _ (List.mem_of_getElem? (i := 1) rfl))) rfl rfl rfl (by decide +kernel) ⟨by rw [← hR]; exact Nat.le_of_ble_eq_true rfl, by rw [← hR]; exact Nat.le_of_ble_eq_true rfl⟩) ⟨fun a U g mk q => by obtain ⟨q0, q1, q2, qK, q10, q11, q12, q13, q14, q15⟩ := q; exact ⟨q0, q1, q2, jG.calling g mk a qK, q10, q11, q12, q13, q14, q15⟩, hh_30.recv (C := RX6) (T := TX6) (N := 4) hB8 rfl (by decide) hg_r0 hK, fun U hU hW => ⟨rfl, hU, hh_30.2.1, hG.step hW hU hh_30.1, hg_r0, hg_xs, hg_xp, hg_xl, (hh_30.2.2.1.sub (L1 := [(r0, 8, 0, .ref xs), (r0, 8, 1, .ref xp), (r0, 8, 2, .ref xl)]) [0, 1, 2] rfl), by first | omega | (refine ⟨?_, ?_⟩ <;> (first | omega | rfl | assumption | decide | exact Or.inl rfl | exact Or.inr rfl | (simp only; omega)))⟩⟩ rfl rfl hl.1 rfl (lv_room (Nat.le_of_ble_eq_true rfl)) dX6_numberOf_117 ⟨Nat.zero_le _, Nat.zero_le _⟩) hh_30.1 (fun q _ h => h) (fun q h => h) (fun r_34 u_33 t_33 H_33 locs_33 ht_33 hvm_33 hr_34 hb_33 hz_33 hk_33 hS_33 => ?_)
                          rw [ht_33] at hb_33
                          obtain ⟨hb_33, hbF_33⟩ := hb_33
                          obtain ⟨hb_331, hb_332, hb_333, hb_334, hb_335⟩ := hb_33
                          have hh_33 : jSt (dC, dI) B base G0 G0 EX6_numberOfBt9 s.heap 0 0 [(r0, 8, 0, .ref xs), (r0, 8, 1, .ref xp), (r0, 8, 2, .ref xl)] [] [] H_33 locs_33 := ((hh_30.call hb_331 hb_332 hb_333 hb_334 hS_33 rfl (L1 := [(r0, 8, 0, .ref xs), (r0, 8, 1, .ref xp), (r0, 8, 2, .ref xl)]) [0, 1, 2] rfl rfl (M1 := []) [] rfl rfl (I1 := []) [] rfl rfl).more hb_335)
                          clear hh_30 ht_33 hvm_33 hz_33 hk_33 hS_33 hb_331 hb_332 hb_333 hb_334 hb_335
                          have hfl_35 := hfl_30.tr hbF_33 (by first | exact fun q h => h | (intro q h9; simp at h9 ⊢; exact h9) | (intro q h9; simp at h9))
                          obtain ⟨hr_34_0, hr_34_1⟩ := hr_34
                          rw [hQ]
                          exact W.iret (v := r_34) hx hb hr (fun t ht hW => ⟨⟨r_34, (), rfl, by first | omega | (refine ⟨?_, ?_⟩ <;> (first | omega | rfl | assumption | decide | exact Or.inl rfl | exact Or.inr rfl | (simp only; omega))), ⟨hh_33.rt (M1 := []) [] rfl ht, by rw [ht]; exact hfl_35⟩⟩, by rw [ht]; try exact hh_33.1.1, fun q h9 hq => by rw [ht]; try exact hh_33.1.2.1 q h9 hq⟩) hh_33.1.2.2 dX6_numberOf_120
                        · skip
                          have c_31' : v8_30.toInt ≥ a2.toInt := jb_lt_n (rfl) (rfl) c_31
                          refine lv_aload_n hx hb dX6_numberOf_75 rfl (lv_at hl 1 rfl) ?_
                          refine lv_iload hx hb dX6_numberOf_76 (lv_at hl 7 rfl) ?_
                          refine j7_iald hx hb hK hh_30 hB173 1 rfl (by decide) hg_r1 (x := v8_30.toInt) (rfl) (by omega) dX6_numberOf_78 (fun z_36 (hz_36 : True) => ?_)
                          refine vp_callSi (W.runS (As := [.int z_36]) (rest := []) ⟨hx, hb, hml, hown, hts⟩ (wX6_signOf l dC dI ca base H_30 z_36) (va_cwS 1 hts (jgS (jWr_7 _ (List.mem_of_getElem? (i := 19) rfl)) (jWr_7 _ (List.mem_of_getElem? (i := 20) rfl)) (jWr_4 _ (List.mem_of_getElem? (i := 10) rfl)) (jWr_7 _ (List.mem_of_getElem? (i := 21) rfl))) rfl rfl rfl (by decide +kernel) ⟨by rw [← hR]; exact Nat.le_of_ble_eq_true rfl, by rw [← hR]; exact Nat.le_of_ble_eq_true rfl⟩) ⟨fun a U g mk q => by obtain ⟨q0, q1, qK, q9⟩ := q; exact ⟨q0, q1, jG.calling g mk a qK, q9⟩, fun U hU hW => ⟨rfl, hU, hG.step hW hU hh_30.1, by first | trivial | omega | (constructor <;> omega)⟩⟩ rfl rfl hl.1 rfl (lv_room (Nat.le_of_ble_eq_true rfl)) dX6_numberOf_79 ⟨Nat.zero_le _, Nat.zero_le _⟩) (fun r_37 hr_37 => ?_)
                          refine lv_istore (lv' := [(9, .int r_37), (0, .ref r0), (1, .ref r1), (2, .int a2), (3, .int a3), (4, .int a4), (5, .int v5_10), (6, .long v6_30), (8, .int v8_30)]) hx hb dX6_numberOf_82 hl (by decide) rfl (fun ls hl => ?_)
                          refine lv_iload hx hb dX6_numberOf_84 (lv_at hl 0 rfl) ?_
                          refine lv_if_ge (tgt := 91) hx hb dX6_numberOf_86 (by decide) (fun c_38 => ?_) (fun c_38 => ?_)
                          · skip
                            have c_38' : r_37.toInt ≥ 0 := jb_ge (rfl) ((by decide)) c_38
                            refine lv_lload hx hb dX6_numberOf_91 (lv_at hl 7 rfl) ?_
                            refine lv_bipush (v := 6) hx hb dX6_numberOf_93 (by decide) ?_
                            refine lv_lshl hx hb dX6_numberOf_95 rfl ?_
                            refine lv_topl (fun z_39 ez_39 => ?_)
                            refine lv_iload hx hb dX6_numberOf_96 (lv_at hl 0 rfl) ?_
                            refine lv_i2l hx hb dX6_numberOf_98 rfl ?_
                            refine lv_topl (fun z_40 ez_40 => ?_)
                            refine lv_lor hx hb dX6_numberOf_99 ?_
                            refine lv_topl (fun z_41 ez_41 => ?_)
                            refine lv_lstore (lv' := [(6, .long z_41), (9, .int r_37), (0, .ref r0), (1, .ref r1), (2, .int a2), (3, .int a3), (4, .int a4), (5, .int v5_10), (8, .int v8_30)]) hx hb dX6_numberOf_100 hl (by decide) rfl (fun ls hl => ?_)
                            obtain ⟨z_42, ez_42⟩ : ∃ y : Int32, y = v8_30 + (-1) := ⟨_, rfl⟩
                            refine lv_iinc (v := z_42) (lv' := [(8, .int z_42), (6, .long z_41), (9, .int r_37), (0, .ref r0), (1, .ref r1), (2, .int a2), (3, .int a3), (4, .int a4), (5, .int v5_10)]) hx hb dX6_numberOf_102 hl (k := 8) rfl (by rw [ez_42]; rfl) (by decide) rfl (fun ls hl => ?_)
                            have hz_42 : z_42.toInt = v8_30.toInt + (-1) := by rw [ez_42]; exact jb_iadd2 (rfl) (by decide) (by omega)
                            refine lv_goto (tgt := 69) hx hb dX6_numberOf_105 (by decide) ?_
                            exact L69 z_41 z_42 _ _ hh_30 (hfl_30) (by first | omega | (refine ⟨?_, ?_⟩ <;> (first | omega | rfl | assumption | decide | exact Or.inl rfl | exact Or.inr rfl | (simp only; omega)))) (by omega) _ (lv_sub hl [3, 4, 5, 6, 7, 8, 1, 0] rfl)
                          · skip
                            have c_38' : r_37.toInt < 0 := jb_ge_n (rfl) ((by decide)) c_38
                            refine lv_iconst (v := (-1)) hx hb dX6_numberOf_89 (by decide) ?_
                            rw [hQ]
                            exact W.iret (v := (-1)) hx hb hr (fun t ht hW => ⟨⟨(-1), (), rfl, by first | omega | (refine ⟨?_, ?_⟩ <;> (first | omega | rfl | assumption | decide | exact Or.inl rfl | exact Or.inr rfl | (simp only; omega))), ⟨hh_30.rt (M1 := []) [] rfl ht, by rw [ht]; exact hfl_30⟩⟩, by rw [ht]; try exact hh_30.1.1, fun q h9 hq => by rw [ht]; try exact hh_30.1.2.1 q h9 hq⟩) hh_30.1.2.2 dX6_numberOf_90
                    exact L69 ((z_29 : Int32).toInt + 1 - a2.toInt : Int).toNat.succ 1 z_29 _ _ hh_10 (hfl_10) (by first | omega | (refine ⟨?_, ?_⟩ <;> (first | omega | rfl | assumption | decide | exact Or.inl rfl | exact Or.inr rfl | (simp only; omega)))) (by omega) _ (lv_sub hl [2, 3, 4, 5, 6, 7, 1, 0] rfl)
                  · skip
                    have c_28' : z_27.toInt = 39 := jb_ne_n (rfl) ((by decide)) c_28
                    obtain ⟨z_43, ez_43⟩ : ∃ y : Int32, y = v5_10 + (-1) := ⟨_, rfl⟩
                    refine lv_iinc (v := z_43) (lv' := [(5, .int z_43), (0, .ref r0), (1, .ref r1), (2, .int a2), (3, .int a3), (4, .int a4)]) hx hb dX6_numberOf_54 hl (k := 5) rfl (by rw [ez_43]; rfl) (by decide) rfl (fun ls hl => ?_)
                    have hz_43 : z_43.toInt = v5_10.toInt + (-1) := by rw [ez_43]; exact jb_iadd2 (rfl) (by decide) (by omega)
                    refine lv_goto (tgt := 37) hx hb dX6_numberOf_57 (by decide) ?_
                    exact L37 z_43 _ _ hh_10 (hfl_10) (by first | omega | (refine ⟨?_, ?_⟩ <;> (first | omega | rfl | assumption | decide | exact Or.inl rfl | exact Or.inr rfl | (simp only; omega)))) (by omega) _ (lv_sub hl [1, 2, 3, 4, 5, 0] rfl)
            exact L37 ((a3 : Int32).toInt - a2.toInt : Int).toNat.succ a3 _ _ hh (hfl) (by first | omega | (refine ⟨?_, ?_⟩ <;> (first | omega | rfl | assumption | decide | exact Or.inl rfl | exact Or.inr rfl | (simp only; omega)))) (by omega) _ (lv_sub hl [1, 2, 3, 4, 5, 0] rfl)
          · skip
            have c_9' : r_8.toInt = 0 := jb_ne_n (rfl) ((by decide)) c_9
            refine lv_iconst (v := (-1)) hx hb dX6_numberOf_32 (by decide) ?_
            rw [hQ]
            exact W.iret (v := (-1)) hx hb hr (fun t ht hW => ⟨⟨(-1), (), rfl, by first | omega | (refine ⟨?_, ?_⟩ <;> (first | omega | rfl | assumption | decide | exact Or.inl rfl | exact Or.inr rfl | (simp only; omega))), ⟨hh.rt (M1 := []) [] rfl ht, by rw [ht]; exact hfl⟩⟩, by rw [ht]; try exact hh.1.1, fun q h9 hq => by rw [ht]; try exact hh.1.2.1 q h9 hq⟩) hh.1.2.2 dX6_numberOf_33
end
section
theorem dX11_placeTold_0 : decode cX11_placeTold 0 = .ok (.aload_n 0, 1) := by decide +kernel
theorem dX11_placeTold_1 : decode cX11_placeTold 1 = .ok (.getfield 28, 3) := by decide +kernel
theorem dX11_placeTold_4 : decode cX11_placeTold 4 = .ok (.iload_n 1, 1) := by decide +kernel
theorem dX11_placeTold_5 : decode cX11_placeTold 5 = .ok (.ldc_w 415, 3) := by decide +kernel
theorem dX11_placeTold_8 : decode cX11_placeTold 8 = .ok (.invokevirtual 260, 3) := by decide +kernel
theorem dX11_placeTold_11 : decode cX11_placeTold 11 = .ok (.istore_n 3, 1) := by decide +kernel
theorem dX11_placeTold_12 : decode cX11_placeTold 12 = .ok (.aload_n 0, 1) := by decide +kernel
theorem dX11_placeTold_13 : decode cX11_placeTold 13 = .ok (.getfield 28, 3) := by decide +kernel
theorem dX11_placeTold_16 : decode cX11_placeTold 16 = .ok (.iload_n 1, 1) := by decide +kernel
theorem dX11_placeTold_17 : decode cX11_placeTold 17 = .ok (.ldc_w 417, 3) := by decide +kernel
theorem dX11_placeTold_20 : decode cX11_placeTold 20 = .ok (.invokevirtual 260, 3) := by decide +kernel
theorem dX11_placeTold_23 : decode cX11_placeTold 23 = .ok (.istore 4, 2) := by decide +kernel
theorem dX11_placeTold_25 : decode cX11_placeTold 25 = .ok (.aload_n 0, 1) := by decide +kernel
theorem dX11_placeTold_26 : decode cX11_placeTold 26 = .ok (.getfield 28, 3) := by decide +kernel
theorem dX11_placeTold_29 : decode cX11_placeTold 29 = .ok (.iload_n 3, 1) := by decide +kernel
theorem dX11_placeTold_30 : decode cX11_placeTold 30 = .ok (.invokevirtual 283, 3) := by decide +kernel
theorem dX11_placeTold_33 : decode cX11_placeTold 33 = .ok (.iconst 4, 1) := by decide +kernel
theorem dX11_placeTold_34 : decode cX11_placeTold 34 = .ok (.if_icmp .ne 16, 3) := by decide +kernel
theorem dX11_placeTold_37 : decode cX11_placeTold 37 = .ok (.aload_n 0, 1) := by decide +kernel
theorem dX11_placeTold_38 : decode cX11_placeTold 38 = .ok (.getfield 28, 3) := by decide +kernel
theorem dX11_placeTold_41 : decode cX11_placeTold 41 = .ok (.iload 4, 2) := by decide +kernel
theorem dX11_placeTold_43 : decode cX11_placeTold 43 = .ok (.invokevirtual 283, 3) := by decide +kernel
theorem dX11_placeTold_46 : decode cX11_placeTold 46 = .ok (.iconst 4, 1) := by decide +kernel
theorem dX11_placeTold_47 : decode cX11_placeTold 47 = .ok (.if_icmp .eq 5, 3) := by decide +kernel
theorem dX11_placeTold_50 : decode cX11_placeTold 50 = .ok (.iconst (-1), 1) := by decide +kernel
theorem dX11_placeTold_51 : decode cX11_placeTold 51 = .ok (.ireturn, 1) := by decide +kernel
theorem dX11_placeTold_52 : decode cX11_placeTold 52 = .ok (.aload_n 2, 1) := by decide +kernel
theorem dX11_placeTold_53 : decode cX11_placeTold 53 = .ok (.aload_n 0, 1) := by decide +kernel
theorem dX11_placeTold_54 : decode cX11_placeTold 54 = .ok (.getfield 28, 3) := by decide +kernel
theorem dX11_placeTold_57 : decode cX11_placeTold 57 = .ok (.iload_n 3, 1) := by decide +kernel
theorem dX11_placeTold_58 : decode cX11_placeTold 58 = .ok (.invokevirtual 367, 3) := by decide +kernel
theorem dX11_placeTold_61 : decode cX11_placeTold 61 = .ok (.aload_n 0, 1) := by decide +kernel
theorem dX11_placeTold_62 : decode cX11_placeTold 62 = .ok (.getfield 28, 3) := by decide +kernel
theorem dX11_placeTold_65 : decode cX11_placeTold 65 = .ok (.iload 4, 2) := by decide +kernel
theorem dX11_placeTold_67 : decode cX11_placeTold 67 = .ok (.invokevirtual 367, 3) := by decide +kernel
theorem dX11_placeTold_70 : decode cX11_placeTold 70 = .ok (.invokevirtual 419, 3) := by decide +kernel
theorem dX11_placeTold_73 : decode cX11_placeTold 73 = .ok (.ireturn, 1) := by decide +kernel
end
section
-- what reading JSON leaves: the strings and keys of the values stand apart among the units, and take bytes
theorem jNnl {x : Nat} {P : Prop} (h : (Value.ref x) = .null ∨ P) : P := h.elim (fun q => by cases q) id
end
section
-- the sentences of a document of the class: in order, none empty
theorem jSn.last {b e e1 : Nat → Int32} {s u : Int} (h : jSn b e s u) (hs : s = 40) (he : jSo e1 39 = u) (heo : ∀ j, j < 40 → j ≠ (39 : Int).toNat → e1 j = e j) : jSn b e1 s u := fun k k0 k1 => by
  have g := h k k0 k1
  by_cases q : k = 39
  · subst q
    rw [he]
    exact ⟨g.1, by omega, by omega, fun z => by omega⟩
  · rw [jst heo k k0 (by omega) (by omega) q]
    exact g
theorem jSn.ce {b e : Nat → Int32} {s s1 u : Int} (h : jSn b e s u) (hs : s = s1) : jSn b e s1 u := hs ▸ h
end
section
-- p11: bits; the tape on both sides; bytes read as UTF-8; the text that comes of them
theorem jBc_near {f : Nat → Int32} {n i d r : Int} {k : Nat} (hk : n - i < k) (hi : i ≤ n) (h : n ≤ i + 1) (e : r = -1) : r = jBc f n k i d := by
  by_cases q : i < n
  · have h1 : jOpI f i n = 0 := by unfold jOpI; rw [if_neg (by omega)]
    have h2 : jClI f i n = 0 := by unfold jClI; rw [if_neg (by omega)]
    rw [jBc_s (by omega), if_pos q, if_neg (by omega), if_neg (by omega), jBc_s (by omega), if_neg (by omega), e]
  · rw [jBc_s (by omega), if_neg q, e]
section JP1
variable {p : Program} {l : Launch} {e : Env} {R : Room} {s : State} {m : MethodId} {args : Array Value} {below : List Frame} {meth : Method} {c : Code} {H : Heap} {locs : List Loc} {cells slots : Nat} {Q : State → Prop}
variable {cc : ByteArray} {pc : Nat} {ls : Array Slot} {rest : List Value} {D : va_G} {cl : List vw_C} {A : Nat → Prop} {a : Nat} {tys : List (ClassId × FieldType)}
end JP1
section JP2
variable {p : Program} {l : Launch} {e : Env} {R : Room} {s : State} {m : MethodId} {args : Array Value} {below : List Frame} {meth : Method} {c : Code} {H : Heap} {locs : List Loc} {cells slots : Nat} {Q : State → Prop}
variable {cc : ByteArray} {pc : Nat} {ls : Array Slot} {rest : List Value} {dC : Nat → ClassId} {dI : Nat → Nat → Nat} {ca : Nat → ClassId} {B : jF} {base : Nat} {G0 G : jT} {E : List (Nat × Nat)} {H0 : Heap} {zc zs : Nat} {L : List jPin} {M : List jCt} {I : List jIv} {a k n : Nat} {cA : ClassId} {tys : List (ClassId × FieldType)}
end JP2
end
section
def EX11_isBlankP : List (Nat × Nat) := []
def EX1_sentenceBeginP : List (Nat × Nat) := []
def EX1_sentenceEndP : List (Nat × Nat) := []
set_option maxHeartbeats 4000000 in
set_option maxRecDepth 20000 in
theorem uX11_isBlankP (l : Launch) (dC : Nat → ClassId) (dI : Nat → Nat → Nat) (ca : Nat → ClassId) (base : Nat) (B : jF) (hB : jBok B) (hAp : jAp (dC, dI)) (G0 : jT) (H0 : Heap) (a0 : Int32) : Met l yX11_isBlank (jw yX11_isBlank cX11_isBlank 1 (some .boolean)) ({ frames := 0, cells := 0, slots := 0, locals := 0 }) (va_Pc [.int a0] (fun U => U.heap = H0 ∧ jX B base G0 [] H0 ∧ jG dC dI ca base U ∧ jP (dC, dI) G0 H0 [] ∧ True)) (va_Qi (S := Unit) (fun r u => (r = 0 ∨ r = 1) ∧ (r.toInt = jBlk a0.toInt)) (fun u t => jRt (dC, dI) B base G0 EX11_isBlankP H0 [] t.heap) (jA base)) 0 0 (jA base) := by
  refine Met.ofW (cc := cX11_isBlank) (maxL := 1) (ret := (some .boolean)) (by decide) rfl ?_
  intro p e s m args below meth c s₁ Bd hml hv
  obtain ⟨rfl, hH0, hX, hG, hP0, hp0⟩ := hv
  have hK := hG.1
  have hx := Bd.exec
  have hb := Bd.bytes
  have hr := Bd.returns
  have hts := atoms_spec (ws := (jw yX11_isBlank cX11_isBlank 1 (some .boolean))) Bd.pre
  have htw : ∀ w ∈ jWl, w.before _ s = true := fun w h => hts w (List.mem_cons_of_mem _ h)
  have hown : s.vm.findClass RX11 = some m.cls := findClass_of_methodNamed Bd.named
  have hlocks := Bd.notSynchronized
  obtain ⟨Q, hQ⟩ : ∃ Q, Q = MQ below (va_Qi (S := Unit) (fun r u => (r = 0 ∨ r = 1) ∧ (r.toInt = jBlk a0.toInt)) (fun u t => jRt (dC, dI) B base G0 EX11_isBlankP H0 [] t.heap) (jA base)) ([.int a0] : List Value).toArray s 0 0 (jA base) := ⟨_, rfl⟩
  rw [← hQ]
  have hl := lv_entry ([.int a0]) (n := 1) (Nat.le_of_ble_eq_true rfl)
  rw [lg_entry_eq]
  generalize (lg_sl ([.int a0]) ++ List.replicate (1 - (lg_sl ([.int a0])).length) Slot.unset).toArray = ls at hl ⊢
  have hl : lv_has ls 1 [(0, .int a0)] := hl
  generalize hR : (headSpec (jw yX11_isBlank cX11_isBlank 1 (some .boolean)) ({ frames := 0, cells := 0, slots := 0, locals := 0 })).room = R
  subst hH0
  have hh : jSt (dC, dI) B base G0 G0 EX11_isBlankP s.heap 0 0 [] [] [] s.heap [] := jSt.start hX hP0 jMc.nil jIs.nil
  clear hX hP0
  have hk0 : (0 : Int32).toInt = 0 := by decide
  have hk1 : (1 : Int32).toInt = 1 := by decide
  have hk9 : (9 : Int32).toInt = 9 := by decide
  have hk10 : (10 : Int32).toInt = 10 := by decide
  have hk13 : (13 : Int32).toInt = 13 := by decide
  have hk32 : (32 : Int32).toInt = 32 := by decide
  have hrg_a0 := jb_rng a0
  refine lv_iload_n hx hb dX11_isBlank_0 rfl (lv_at hl 0 rfl) ?_
  refine lv_bipush (v := 32) hx hb dX11_isBlank_1 (by decide) ?_
  refine lv_icmp_eq (tgt := 24) hx hb dX11_isBlank_3 (by decide) (fun c_1 => ?_) (fun c_1 => ?_)
  · skip
    have c_1' : a0.toInt = 32 := jb_eq (rfl) ((by decide)) c_1
    refine lv_iconst (v := 1) hx hb dX11_isBlank_24 (by decide) ?_
    refine lv_goto (tgt := 29) hx hb dX11_isBlank_25 (by decide) ?_
    rw [hQ]
    exact W.zret (v := 1) hx hb hr (jb_nz (Or.inr rfl)) (fun t ht hW => ⟨⟨1, (), rfl, ⟨(Or.inr rfl), by unfold jBlk; first | (rw [if_pos (by omega)]; exact hk1) | (rw [if_neg (by omega)]; exact hk0)⟩, hh.rt (M1 := []) [] rfl ht⟩, by rw [ht]; try exact hh.1.1, fun q h9 hq => by rw [ht]; try exact hh.1.2.1 q h9 hq⟩) hh.1.2.2 dX11_isBlank_29
  · skip
    have c_1' : a0.toInt ≠ 32 := jb_eq_n (rfl) ((by decide)) c_1
    refine lv_iload_n hx hb dX11_isBlank_6 rfl (lv_at hl 0 rfl) ?_
    refine lv_bipush (v := 9) hx hb dX11_isBlank_7 (by decide) ?_
    refine lv_icmp_eq (tgt := 24) hx hb dX11_isBlank_9 (by decide) (fun c_2 => ?_) (fun c_2 => ?_)
    · skip
      have c_2' : a0.toInt = 9 := jb_eq (rfl) ((by decide)) c_2
      refine lv_iconst (v := 1) hx hb dX11_isBlank_24 (by decide) ?_
      refine lv_goto (tgt := 29) hx hb dX11_isBlank_25 (by decide) ?_
      rw [hQ]
      exact W.zret (v := 1) hx hb hr (jb_nz (Or.inr rfl)) (fun t ht hW => ⟨⟨1, (), rfl, ⟨(Or.inr rfl), by unfold jBlk; first | (rw [if_pos (by omega)]; exact hk1) | (rw [if_neg (by omega)]; exact hk0)⟩, hh.rt (M1 := []) [] rfl ht⟩, by rw [ht]; try exact hh.1.1, fun q h9 hq => by rw [ht]; try exact hh.1.2.1 q h9 hq⟩) hh.1.2.2 dX11_isBlank_29
    · skip
      have c_2' : a0.toInt ≠ 9 := jb_eq_n (rfl) ((by decide)) c_2
      refine lv_iload_n hx hb dX11_isBlank_12 rfl (lv_at hl 0 rfl) ?_
      refine lv_bipush (v := 10) hx hb dX11_isBlank_13 (by decide) ?_
      refine lv_icmp_eq (tgt := 24) hx hb dX11_isBlank_15 (by decide) (fun c_3 => ?_) (fun c_3 => ?_)
      · skip
        have c_3' : a0.toInt = 10 := jb_eq (rfl) ((by decide)) c_3
        refine lv_iconst (v := 1) hx hb dX11_isBlank_24 (by decide) ?_
        refine lv_goto (tgt := 29) hx hb dX11_isBlank_25 (by decide) ?_
        rw [hQ]
        exact W.zret (v := 1) hx hb hr (jb_nz (Or.inr rfl)) (fun t ht hW => ⟨⟨1, (), rfl, ⟨(Or.inr rfl), by unfold jBlk; first | (rw [if_pos (by omega)]; exact hk1) | (rw [if_neg (by omega)]; exact hk0)⟩, hh.rt (M1 := []) [] rfl ht⟩, by rw [ht]; try exact hh.1.1, fun q h9 hq => by rw [ht]; try exact hh.1.2.1 q h9 hq⟩) hh.1.2.2 dX11_isBlank_29
      · skip
        have c_3' : a0.toInt ≠ 10 := jb_eq_n (rfl) ((by decide)) c_3
        refine lv_iload_n hx hb dX11_isBlank_18 rfl (lv_at hl 0 rfl) ?_
        refine lv_bipush (v := 13) hx hb dX11_isBlank_19 (by decide) ?_
        refine lv_icmp_ne (tgt := 28) hx hb dX11_isBlank_21 (by decide) (fun c_4 => ?_) (fun c_4 => ?_)
        · skip
          have c_4' : a0.toInt ≠ 13 := jb_ne (rfl) ((by decide)) c_4
          refine lv_iconst (v := 0) hx hb dX11_isBlank_28 (by decide) ?_
          rw [hQ]
          exact W.zret (v := 0) hx hb hr (jb_nz (Or.inl rfl)) (fun t ht hW => ⟨⟨0, (), rfl, ⟨(Or.inl rfl), by unfold jBlk; first | (rw [if_pos (by omega)]; exact hk1) | (rw [if_neg (by omega)]; exact hk0)⟩, hh.rt (M1 := []) [] rfl ht⟩, by rw [ht]; try exact hh.1.1, fun q h9 hq => by rw [ht]; try exact hh.1.2.1 q h9 hq⟩) hh.1.2.2 dX11_isBlank_29
        · skip
          have c_4' : a0.toInt = 13 := jb_ne_n (rfl) ((by decide)) c_4
          refine lv_iconst (v := 1) hx hb dX11_isBlank_24 (by decide) ?_
          refine lv_goto (tgt := 29) hx hb dX11_isBlank_25 (by decide) ?_
          rw [hQ]
          exact W.zret (v := 1) hx hb hr (jb_nz (Or.inr rfl)) (fun t ht hW => ⟨⟨1, (), rfl, ⟨(Or.inr rfl), by unfold jBlk; first | (rw [if_pos (by omega)]; exact hk1) | (rw [if_neg (by omega)]; exact hk0)⟩, hh.rt (M1 := []) [] rfl ht⟩, by rw [ht]; try exact hh.1.1, fun q h9 hq => by rw [ht]; try exact hh.1.2.1 q h9 hq⟩) hh.1.2.2 dX11_isBlank_29
def EX11_opensCommentPt9 : List (Nat × Nat) := []
def EX11_commentEndPt9 : List (Nat × Nat) := []
set_option maxHeartbeats 4000000 in
set_option maxRecDepth 20000 in
theorem uX11_opensCommentPt9 (l : Launch) (dC : Nat → ClassId) (dI : Nat → Nat → Nat) (ca : Nat → ClassId) (base : Nat) (B : jF) (hB : jBok B) (hAp : jAp (dC, dI)) (hB173 : ∀ n G a H, B 173 n G a H ↔ jAr (dC, dI) (ca 1) (fun j z => True) n a H) (G0 : jT) (H0 : Heap) (r0 : Nat) (a1 : Int32) (a2 : Int32) (n0 : Nat) (f0 : Nat → Int32) : Met l yX11_opensComment (jw yX11_opensComment cX11_opensComment 3 (some .boolean)) ({ frames := 0, cells := 0, slots := 0, locals := 0 }) (va_Pc [.ref r0, .int a1, .int a2] (fun U => U.heap = H0 ∧ jX B base G0 [] H0 ∧ jG dC dI ca base U ∧ G0 r0 = some (173, n0) ∧ jP (dC, dI) G0 H0 [] ∧ jMc (dC, dI) G0 H0 [(r0, 173, n0, ca 1, f0)] ∧ 0 ≤ a1.toInt ∧ a1.toInt ≤ 1000000 ∧ a2.toInt ≤ n0 ∧ n0 < 1000000)) (va_Qi (S := Unit) (fun r u => (r = 0 ∨ r = 1) ∧ (r.toInt = jOpI f0 a1.toInt a2.toInt ∧ (r.toInt = 0 ∨ a1.toInt + 2 ≤ a2.toInt))) (fun u t => jRt (dC, dI) B base G0 EX11_opensCommentPt9 H0 [] t.heap) (jA base)) 0 0 (jA base) := by
  refine Met.ofW (cc := cX11_opensComment) (maxL := 3) (ret := (some .boolean)) (by decide) rfl ?_
  intro p e s m args below meth c s₁ Bd hml hv
  obtain ⟨rfl, hH0, hX, hG, hg_r0, hP0, hM0, hp0, hp1, hp2, hp3⟩ := hv
  have hK := hG.1
  have hx := Bd.exec
  have hb := Bd.bytes
  have hr := Bd.returns
  have hts := atoms_spec (ws := (jw yX11_opensComment cX11_opensComment 3 (some .boolean))) Bd.pre
  have htw : ∀ w ∈ jWl, w.before _ s = true := fun w h => hts w (List.mem_cons_of_mem _ h)
  have hown : s.vm.findClass RX11 = some m.cls := findClass_of_methodNamed Bd.named
  have hlocks := Bd.notSynchronized
  obtain ⟨Q, hQ⟩ : ∃ Q, Q = MQ below (va_Qi (S := Unit) (fun r u => (r = 0 ∨ r = 1) ∧ (r.toInt = jOpI f0 a1.toInt a2.toInt ∧ (r.toInt = 0 ∨ a1.toInt + 2 ≤ a2.toInt))) (fun u t => jRt (dC, dI) B base G0 EX11_opensCommentPt9 H0 [] t.heap) (jA base)) ([.ref r0, .int a1, .int a2] : List Value).toArray s 0 0 (jA base) := ⟨_, rfl⟩
  rw [← hQ]
  have hl := lv_entry ([.ref r0, .int a1, .int a2]) (n := 3) (Nat.le_of_ble_eq_true rfl)
  rw [lg_entry_eq]
  generalize (lg_sl ([.ref r0, .int a1, .int a2]) ++ List.replicate (3 - (lg_sl ([.ref r0, .int a1, .int a2])).length) Slot.unset).toArray = ls at hl ⊢
  have hl : lv_has ls 3 [(0, .ref r0), (1, .int a1), (2, .int a2)] := hl
  generalize hR : (headSpec (jw yX11_opensComment cX11_opensComment 3 (some .boolean)) ({ frames := 0, cells := 0, slots := 0, locals := 0 })).room = R
  subst hH0
  have hh : jSt (dC, dI) B base G0 G0 EX11_opensCommentPt9 s.heap 0 0 [] [(r0, 173, n0, ca 1, f0)] [] s.heap [] := jSt.start hX hP0 hM0 jIs.nil
  clear hX hP0
  have hk0 : (0 : Int32).toInt = 0 := by decide
  have hk1 : (1 : Int32).toInt = 1 := by decide
  have hk40 : (40 : Int32).toInt = 40 := by decide
  have hk42 : (42 : Int32).toInt = 42 := by decide
  have hrg_a1 := jb_rng a1
  have hrg_a2 := jb_rng a2
  refine lv_iload_n hx hb dX11_opensComment_0 rfl (lv_at hl 1 rfl) ?_
  refine lv_if_lt (tgt := 39) hx hb dX11_opensComment_1 (by decide) (fun c_1 => ?_) (fun c_1 => ?_)
  · skip
    have c_1' : a1.toInt < 0 := jb_lt (rfl) ((by decide)) c_1
    exact absurd c_1' (by omega)
  · skip
    have c_1' : a1.toInt ≥ 0 := jb_lt_n (rfl) ((by decide)) c_1
    refine lv_iload_n hx hb dX11_opensComment_4 rfl (lv_at hl 1 rfl) ?_
    refine lv_iconst (v := 1) hx hb dX11_opensComment_5 (by decide) ?_
    refine lv_iadd hx hb dX11_opensComment_6 ?_
    refine lv_topi (fun z_2 ez_2 => ?_)
    have hz_2 : z_2.toInt = a1.toInt + 1 := by rw [ez_2]; exact jb_iadd2 (rfl) ((by decide)) (by omega)
    refine lv_iload_n hx hb dX11_opensComment_7 rfl (lv_at hl 2 rfl) ?_
    refine lv_icmp_ge (tgt := 39) hx hb dX11_opensComment_8 (by decide) (fun c_3 => ?_) (fun c_3 => ?_)
    · skip
      have c_3' : z_2.toInt ≥ a2.toInt := jb_ge (rfl) (rfl) c_3
      refine lv_iconst (v := 0) hx hb dX11_opensComment_39 (by decide) ?_
      rw [hQ]
      exact W.zret (v := 0) hx hb hr (jb_nz (Or.inl rfl)) (fun t ht hW => ⟨⟨0, (), rfl, ⟨(Or.inl rfl), by refine ⟨by unfold jOpI; first | (rw [if_pos (by omega)]; decide) | (rw [if_neg (by omega)]; decide), by omega⟩⟩, hh.rt (M1 := []) [] rfl ht⟩, by rw [ht]; try exact hh.1.1, fun q h9 hq => by rw [ht]; try exact hh.1.2.1 q h9 hq⟩) hh.1.2.2 dX11_opensComment_40
    · skip
      have c_3' : z_2.toInt < a2.toInt := jb_ge_n (rfl) (rfl) c_3
      refine lv_iload_n hx hb dX11_opensComment_11 rfl (lv_at hl 2 rfl) ?_
      refine lv_aload_n hx hb dX11_opensComment_12 rfl (lv_at hl 0 rfl) ?_
      refine j7_len hx hb hK hh hB173 1 rfl (by decide) hg_r0 (by omega) dX11_opensComment_13 (fun z_4 hz_4 => ?_)
      refine lv_icmp_gt (tgt := 39) hx hb dX11_opensComment_14 (by decide) (fun c_5 => ?_) (fun c_5 => ?_)
      · skip
        have c_5' : a2.toInt > z_4.toInt := jb_gt (rfl) (rfl) c_5
        exact absurd c_5' (by omega)
      · skip
        have c_5' : a2.toInt ≤ z_4.toInt := jb_gt_n (rfl) (rfl) c_5
        refine lv_aload_n hx hb dX11_opensComment_17 rfl (lv_at hl 0 rfl) ?_
        refine lv_iload_n hx hb dX11_opensComment_18 rfl (lv_at hl 1 rfl) ?_
        refine j7_ialdM hx hb hK hh hB173 1 rfl (by decide) hg_r0 (x := a1.toInt) (rfl) (by omega) (j := 0) rfl dX11_opensComment_19 (fun z_6 ez_6 (hz_6 : True) => ?_)
        have hqz_6 : z_6.toInt = (f0 (a1.toInt).toNat).toInt := by rw [ez_6]
        refine lv_bipush (v := 40) hx hb dX11_opensComment_20 (by decide) ?_
        refine lv_icmp_ne (tgt := 39) hx hb dX11_opensComment_22 (by decide) (fun c_7 => ?_) (fun c_7 => ?_)
        · skip
          have c_7' : z_6.toInt ≠ 40 := jb_ne (rfl) ((by decide)) c_7
          refine lv_iconst (v := 0) hx hb dX11_opensComment_39 (by decide) ?_
          rw [hQ]
          exact W.zret (v := 0) hx hb hr (jb_nz (Or.inl rfl)) (fun t ht hW => ⟨⟨0, (), rfl, ⟨(Or.inl rfl), by refine ⟨by unfold jOpI; first | (rw [if_pos (by omega)]; decide) | (rw [if_neg (by omega)]; decide), by omega⟩⟩, hh.rt (M1 := []) [] rfl ht⟩, by rw [ht]; try exact hh.1.1, fun q h9 hq => by rw [ht]; try exact hh.1.2.1 q h9 hq⟩) hh.1.2.2 dX11_opensComment_40
        · skip
          have c_7' : z_6.toInt = 40 := jb_ne_n (rfl) ((by decide)) c_7
          refine lv_aload_n hx hb dX11_opensComment_25 rfl (lv_at hl 0 rfl) ?_
          refine lv_iload_n hx hb dX11_opensComment_26 rfl (lv_at hl 1 rfl) ?_
          refine lv_iconst (v := 1) hx hb dX11_opensComment_27 (by decide) ?_
          refine lv_iadd hx hb dX11_opensComment_28 ?_
          refine lv_topi (fun z_8 ez_8 => ?_)
          have hz_8 : z_8.toInt = a1.toInt + 1 := by rw [ez_8]; exact jb_iadd2 (rfl) ((by decide)) (by omega)
          refine j7_ialdM hx hb hK hh hB173 1 rfl (by decide) hg_r0 (x := z_8.toInt) (rfl) (by omega) (j := 0) rfl dX11_opensComment_29 (fun z_9 ez_9 (hz_9 : True) => ?_)
          have hqz_9 : z_9.toInt = (f0 ((a1.toInt + 1)).toNat).toInt := by rw [ez_9, show z_8.toInt = (a1.toInt + 1) by omega]
          first | have hqz_9_10 : z_9.toInt = (f0 (a1.toInt).toNat).toInt := by rw [ez_9, show z_8.toInt = a1.toInt by omega] | skip
          refine lv_bipush (v := 42) hx hb dX11_opensComment_30 (by decide) ?_
          refine lv_icmp_ne (tgt := 39) hx hb dX11_opensComment_32 (by decide) (fun c_11 => ?_) (fun c_11 => ?_)
          · skip
            have c_11' : z_9.toInt ≠ 42 := jb_ne (rfl) ((by decide)) c_11
            refine lv_iconst (v := 0) hx hb dX11_opensComment_39 (by decide) ?_
            rw [hQ]
            exact W.zret (v := 0) hx hb hr (jb_nz (Or.inl rfl)) (fun t ht hW => ⟨⟨0, (), rfl, ⟨(Or.inl rfl), by refine ⟨by unfold jOpI; first | (rw [if_pos (by omega)]; decide) | (rw [if_neg (by omega)]; decide), by omega⟩⟩, hh.rt (M1 := []) [] rfl ht⟩, by rw [ht]; try exact hh.1.1, fun q h9 hq => by rw [ht]; try exact hh.1.2.1 q h9 hq⟩) hh.1.2.2 dX11_opensComment_40
          · skip
            have c_11' : z_9.toInt = 42 := jb_ne_n (rfl) ((by decide)) c_11
            refine lv_iconst (v := 1) hx hb dX11_opensComment_35 (by decide) ?_
            refine lv_goto (tgt := 40) hx hb dX11_opensComment_36 (by decide) ?_
            rw [hQ]
            exact W.zret (v := 1) hx hb hr (jb_nz (Or.inr rfl)) (fun t ht hW => ⟨⟨1, (), rfl, ⟨(Or.inr rfl), by refine ⟨by unfold jOpI; first | (rw [if_pos (by omega)]; decide) | (rw [if_neg (by omega)]; decide), by omega⟩⟩, hh.rt (M1 := []) [] rfl ht⟩, by rw [ht]; try exact hh.1.1, fun q h9 hq => by rw [ht]; try exact hh.1.2.1 q h9 hq⟩) hh.1.2.2 dX11_opensComment_40
set_option maxHeartbeats 4000000 in
set_option maxRecDepth 20000 in
theorem uX11_commentEndPt9 (l : Launch) (dC : Nat → ClassId) (dI : Nat → Nat → Nat) (ca : Nat → ClassId) (base : Nat) (B : jF) (hB : jBok B) (hAp : jAp (dC, dI)) (hB101 : ∀ n G a H, B 101 n G a H ↔ jAr (dC, dI) (ca 1) (fun j z => True) n a H) (hB173 : ∀ n G a H, B 173 n G a H ↔ jAr (dC, dI) (ca 1) (fun j z => True) n a H) (G0 : jT) (H0 : Heap) (r0 : Nat) (a1 : Int32) (a2 : Int32) (n0 : Nat) (f0 : Nat → Int32) : Met l yX11_commentEnd (jw yX11_commentEnd cX11_commentEnd 5 (some .int)) ({ frames := 1, cells := 0, slots := 0, locals := 22 }) (va_Pc [.ref r0, .int a1, .int a2] (fun U => U.heap = H0 ∧ jX B base G0 [] H0 ∧ jG dC dI ca base U ∧ G0 r0 = some (173, n0) ∧ jP (dC, dI) G0 H0 [] ∧ jMc (dC, dI) G0 H0 [(r0, 173, n0, ca 1, f0)] ∧ 0 ≤ a1.toInt ∧ a1.toInt ≤ a2.toInt ∧ a2.toInt ≤ n0 ∧ n0 < 1000000)) (va_Qi (S := Unit) (fun r u => (r.toInt = jCe f0 a2.toInt a1.toInt ∧ (r.toInt = -1 ∨ (a1.toInt + 4 ≤ r.toInt ∧ r.toInt ≤ a2.toInt)))) (fun u t => jRt (dC, dI) B base G0 EX11_commentEndPt9 H0 [] t.heap) (jA base)) 0 0 (jA base) := by
  refine Met.ofW (cc := cX11_commentEnd) (maxL := 5) (ret := (some .int)) (by decide) rfl ?_
  intro p e s m args below meth c s₁ Bd hml hv
  obtain ⟨rfl, hH0, hX, hG, hg_r0, hP0, hM0, hp0, hp1, hp2, hp3⟩ := hv
  have hK := hG.1
  have hx := Bd.exec
  have hb := Bd.bytes
  have hr := Bd.returns
  have hts := atoms_spec (ws := (jw yX11_commentEnd cX11_commentEnd 5 (some .int))) Bd.pre
  have htw : ∀ w ∈ jWl, w.before _ s = true := fun w h => hts w (List.mem_cons_of_mem _ h)
  have hown : s.vm.findClass RX11 = some m.cls := findClass_of_methodNamed Bd.named
  have hlocks := Bd.notSynchronized
  obtain ⟨Q, hQ⟩ : ∃ Q, Q = MQ below (va_Qi (S := Unit) (fun r u => (r.toInt = jCe f0 a2.toInt a1.toInt ∧ (r.toInt = -1 ∨ (a1.toInt + 4 ≤ r.toInt ∧ r.toInt ≤ a2.toInt)))) (fun u t => jRt (dC, dI) B base G0 EX11_commentEndPt9 H0 [] t.heap) (jA base)) ([.ref r0, .int a1, .int a2] : List Value).toArray s 0 0 (jA base) := ⟨_, rfl⟩
  rw [← hQ]
  have hl := lv_entry ([.ref r0, .int a1, .int a2]) (n := 5) (Nat.le_of_ble_eq_true rfl)
  rw [lg_entry_eq]
  generalize (lg_sl ([.ref r0, .int a1, .int a2]) ++ List.replicate (5 - (lg_sl ([.ref r0, .int a1, .int a2])).length) Slot.unset).toArray = ls at hl ⊢
  have hl : lv_has ls 5 [(0, .ref r0), (1, .int a1), (2, .int a2)] := hl
  generalize hR : (headSpec (jw yX11_commentEnd cX11_commentEnd 5 (some .int)) ({ frames := 1, cells := 0, slots := 0, locals := 22 })).room = R
  subst hH0
  have hh : jSt (dC, dI) B base G0 G0 EX11_commentEndPt9 s.heap 0 0 [] [(r0, 173, n0, ca 1, f0)] [] s.heap [] := jSt.start hX hP0 hM0 jIs.nil
  clear hX hP0
  have hkm1 : ((-1) : Int32).toInt = (-1) := by decide
  have hk0 : (0 : Int32).toInt = 0 := by decide
  have hk1 : (1 : Int32).toInt = 1 := by decide
  have hk2 : (2 : Int32).toInt = 2 := by decide
  have hk40 : (40 : Int32).toInt = 40 := by decide
  have hk41 : (41 : Int32).toInt = 41 := by decide
  have hk42 : (42 : Int32).toInt = 42 := by decide
  have hrg_a1 := jb_rng a1
  have hrg_a2 := jb_rng a2
  refine lv_aload_n hx hb dX11_commentEnd_0 rfl (lv_at hl 0 rfl) ?_
  refine lv_iload_n hx hb dX11_commentEnd_1 rfl (lv_at hl 1 rfl) ?_
  refine lv_iload_n hx hb dX11_commentEnd_2 rfl (lv_at hl 2 rfl) ?_
  refine va_calli (A0 := jA base) (H0 := s.heap) (va_runS (As := [.ref r0, .int a1, .int a2]) (rest := []) ⟨hx, hb, hml, hown, hts⟩ (uX11_opensCommentPt9 l dC dI ca base B hB hAp hB173 G0 s.heap r0 a1 a2 n0 f0) (va_cwS 3 hts (jgS (jWr_36 _ (List.mem_of_getElem? (i := 12) rfl)) (jWr_36 _ (List.mem_of_getElem? (i := 13) rfl)) (jWr_1 _ (List.mem_of_getElem? (i := 2) rfl)) (jWr_36 _ (List.mem_of_getElem? (i := 14) rfl))) rfl rfl rfl (by decide +kernel) ⟨by rw [← hR]; exact Nat.le_of_ble_eq_true rfl, by rw [← hR]; exact Nat.le_of_ble_eq_true rfl⟩) ⟨fun a U g mk q => by obtain ⟨q0, q1, q2, qK, q10, q11, q12, q13⟩ := q; exact ⟨q0, q1, q2, jG.calling g mk a qK, q10, q11, q12, q13⟩, fun U hU hW => ⟨rfl, hU, hh.2.1, hG.step hW hU hh.1, hg_r0, jP.nil, (hh.2.2.2.2.2.2.2.1.sub (L1 := [(r0, 173, n0, ca 1, f0)]) [0] rfl), by first | omega | (refine ⟨?_, ?_, ?_, ?_⟩ <;> (first | omega | rfl | assumption | decide | exact Or.inl rfl | exact Or.inr rfl | (simp only; omega)))⟩⟩ rfl rfl hl.1 rfl (lv_room (Nat.le_of_ble_eq_true rfl)) dX11_commentEnd_3 ⟨Nat.zero_le _, Nat.zero_le _⟩) hh.1 (fun q _ h => h) (fun q h => h) (fun r_2 u_1 t_1 H_1 locs_1 ht_1 hvm_1 hr_2 hb_1 hz_1 hk_1 hS_1 => ?_)
  rw [ht_1] at hb_1
  obtain ⟨hb_11, hb_12, hb_13, hb_14, hb_15⟩ := hb_1
  have hh_1 : jSt (dC, dI) B base G0 G0 EX11_commentEndPt9 s.heap 0 0 [] [(r0, 173, n0, ca 1, f0)] [] H_1 locs_1 := ((hh.call hb_11 hb_12 hb_13 hb_14 hS_1 rfl (L1 := []) [] rfl rfl (M1 := [(r0, 173, n0, ca 1, f0)]) [0] rfl rfl (I1 := []) [] rfl rfl).more hb_15)
  clear hh ht_1 hvm_1 hz_1 hk_1 hS_1 hb_11 hb_12 hb_13 hb_14 hb_15
  obtain ⟨hr_2b, hr_2p⟩ := hr_2
  obtain ⟨hr_2p_0, hr_2p_1⟩ := hr_2p
  have hr_2' := jb_01 hr_2b
  refine lv_if_ne (tgt := 11) hx hb dX11_commentEnd_6 (by decide) (fun c_3 => ?_) (fun c_3 => ?_)
  · skip
    have c_3' : r_2.toInt ≠ 0 := jb_ne (rfl) ((by decide)) c_3
    first | (have hr_2p_1q := hr_2p_1.resolve_left (by omega); clear hr_2p_1) | (have hr_2p_1q := hr_2p_1.resolve_right (by omega); clear hr_2p_1) | try clear hr_2p_1
    refine lv_iconst (v := 1) hx hb dX11_commentEnd_11 (by decide) ?_
    refine lv_istore_n (lv' := [(3, .int 1), (0, .ref r0), (1, .int a1), (2, .int a2)]) hx hb dX11_commentEnd_12 rfl hl (by decide) rfl (fun ls hl => ?_)
    refine lv_iload_n hx hb dX11_commentEnd_13 rfl (lv_at hl 2 rfl) ?_
    refine lv_iconst (v := 2) hx hb dX11_commentEnd_14 (by decide) ?_
    refine lv_iadd hx hb dX11_commentEnd_15 ?_
    refine lv_topi (fun z_4 ez_4 => ?_)
    have hz_4 : z_4.toInt = a1.toInt + 2 := by rw [ez_4]; exact jb_iadd2 (rfl) ((by decide)) (by omega)
    refine lv_istore (lv' := [(4, .int z_4), (3, .int 1), (0, .ref r0), (1, .int a1), (2, .int a2)]) hx hb dX11_commentEnd_16 hl (by decide) rfl (fun ls hl => ?_)
    have L18 : ∀ (N : Nat) (v3_5 : Int32) (v4_5 : Int32) (kf : Nat) (H_5 : Heap) (locs_5 : List Loc), jSt (dC, dI) B base G0 G0 EX11_commentEndPt9 s.heap 0 0 [] [(r0, 173, n0, ca 1, f0)] [] H_5 locs_5 → (a1.toInt + 2 ≤ v4_5.toInt ∧ v4_5.toInt ≤ a2.toInt ∧ 1 ≤ v3_5.toInt ∧ v3_5.toInt ≤ v4_5.toInt ∧ a2.toInt - v4_5.toInt < kf ∧ jBc f0 a2.toInt kf v4_5.toInt v3_5.toInt = jBcc f0 a2.toInt a1.toInt) → (a2.toInt - v4_5.toInt : Int) < N → ∀ ls : Array Slot, lv_has ls 5 [(0, .ref r0), (1, .int a1), (2, .int a2), (3, .int v3_5), (4, .int v4_5)] → W p l e R s m ([.ref r0, .int a1, .int a2] : List Value).toArray below meth c H_5 locs_5 0 0 Q (F0 m 18 ls []) := by
      intro N
      induction N with
      | zero => intro v3_5 v4_5 kf H_5 locs_5 hh_5  hi_5 hm; exact absurd hm (by omega)
      | succ N L18 =>
        intro v3_5 v4_5 kf H_5 locs_5 hh_5  hi_5 hm_5 ls hl
        obtain ⟨hi_5_0, hi_5_1, hi_5_2, hi_5_3, hi_5_4, hi_5_5⟩ := hi_5
        refine lv_iload hx hb dX11_commentEnd_18 (lv_at hl 4 rfl) ?_
        refine lv_iconst (v := 1) hx hb dX11_commentEnd_20 (by decide) ?_
        refine lv_iadd hx hb dX11_commentEnd_21 ?_
        refine lv_topi (fun z_6 ez_6 => ?_)
        have hz_6 : z_6.toInt = v4_5.toInt + 1 := by rw [ez_6]; exact jb_iadd2 (rfl) ((by decide)) (by omega)
        refine lv_iload_n hx hb dX11_commentEnd_22 rfl (lv_at hl 2 rfl) ?_
        refine lv_icmp_ge (tgt := 96) hx hb dX11_commentEnd_23 (by decide) (fun c_7 => ?_) (fun c_7 => ?_)
        · skip
          have c_7' : z_6.toInt ≥ a2.toInt := jb_ge (rfl) (rfl) c_7
          refine lv_iconst (v := (-1)) hx hb dX11_commentEnd_96 (by decide) ?_
          rw [hQ]
          exact W.iret (v := (-1)) hx hb hr (fun t ht hW => ⟨⟨(-1), (), rfl, by refine ⟨?_, by omega⟩; unfold jCe; rw [if_pos (by omega)]; exact (jBc_near (by omega) (by omega) (by omega) rfl).trans hi_5_5, hh_5.rt (M1 := []) [] rfl ht⟩, by rw [ht]; try exact hh_5.1.1, fun q h9 hq => by rw [ht]; try exact hh_5.1.2.1 q h9 hq⟩) hh_5.1.2.2 dX11_commentEnd_97
        · skip
          have c_7' : z_6.toInt < a2.toInt := jb_ge_n (rfl) (rfl) c_7
          refine lv_aload_n hx hb dX11_commentEnd_26 rfl (lv_at hl 0 rfl) ?_
          refine lv_iload hx hb dX11_commentEnd_27 (lv_at hl 4 rfl) ?_
          refine j7_ialdM hx hb hK hh_5 hB173 1 rfl (by decide) hg_r0 (x := v4_5.toInt) (rfl) (by omega) (j := 0) rfl dX11_commentEnd_29 (fun z_8 ez_8 (hz_8 : True) => ?_)
          have hqz_8 : z_8.toInt = (f0 (v4_5.toInt).toNat).toInt := by rw [ez_8]
          refine lv_bipush (v := 40) hx hb dX11_commentEnd_30 (by decide) ?_
          refine lv_icmp_ne (tgt := 55) hx hb dX11_commentEnd_32 (by decide) (fun c_9 => ?_) (fun c_9 => ?_)
          · skip
            have c_9' : z_8.toInt ≠ 40 := jb_ne (rfl) ((by decide)) c_9
            refine lv_aload_n hx hb dX11_commentEnd_55 rfl (lv_at hl 0 rfl) ?_
            refine lv_iload hx hb dX11_commentEnd_56 (lv_at hl 4 rfl) ?_
            refine j7_ialdM hx hb hK hh_5 hB173 1 rfl (by decide) hg_r0 (x := v4_5.toInt) (rfl) (by omega) (j := 0) rfl dX11_commentEnd_58 (fun z_10 ez_10 (hz_10 : True) => ?_)
            have hqz_10 : z_10.toInt = (f0 (v4_5.toInt).toNat).toInt := by rw [ez_10]
            refine lv_bipush (v := 42) hx hb dX11_commentEnd_59 (by decide) ?_
            refine lv_icmp_ne (tgt := 90) hx hb dX11_commentEnd_61 (by decide) (fun c_11 => ?_) (fun c_11 => ?_)
            · skip
              have c_11' : z_10.toInt ≠ 42 := jb_ne (rfl) ((by decide)) c_11
              obtain ⟨z_12, ez_12⟩ : ∃ y : Int32, y = v4_5 + 1 := ⟨_, rfl⟩
              refine lv_iinc (v := z_12) (lv' := [(4, .int z_12), (0, .ref r0), (1, .int a1), (2, .int a2), (3, .int v3_5)]) hx hb dX11_commentEnd_90 hl (k := 4) rfl (by rw [ez_12]; rfl) (by decide) rfl (fun ls hl => ?_)
              have hz_12 : z_12.toInt = v4_5.toInt + 1 := by rw [ez_12]; exact jb_iadd2 (rfl) (by decide) (by omega)
              refine lv_goto (tgt := 18) hx hb dX11_commentEnd_93 (by decide) ?_
              exact L18 v3_5 z_12 (kf - 1) _ _ hh_5 (by refine ⟨by omega, by omega, by omega, by omega, by omega, ?_⟩; first | exact (jBc_op (by omega) (by omega) (by unfold jOpI; rw [if_pos (by omega)]) (by omega) (by omega)).trans hi_5_5 | exact (jBc_cl (by omega) (by omega) (by unfold jOpI; rw [if_neg (by omega)]) (by unfold jClI; rw [if_pos (by omega)]) (by omega) (by omega) (by omega)).trans hi_5_5 | exact (jBc_el (by omega) (by omega) (by unfold jOpI; rw [if_neg (by omega)]) (by unfold jClI; rw [if_neg (by omega)]) (by omega) (by omega)).trans hi_5_5) (by omega) _ (lv_sub hl [1, 2, 3, 4, 0] rfl)
            · skip
              have c_11' : z_10.toInt = 42 := jb_ne_n (rfl) ((by decide)) c_11
              refine lv_aload_n hx hb dX11_commentEnd_64 rfl (lv_at hl 0 rfl) ?_
              refine lv_iload hx hb dX11_commentEnd_65 (lv_at hl 4 rfl) ?_
              refine lv_iconst (v := 1) hx hb dX11_commentEnd_67 (by decide) ?_
              refine lv_iadd hx hb dX11_commentEnd_68 ?_
              refine lv_topi (fun z_13 ez_13 => ?_)
              have hz_13 : z_13.toInt = v4_5.toInt + 1 := by rw [ez_13]; exact jb_iadd2 (rfl) ((by decide)) (by omega)
              refine j7_ialdM hx hb hK hh_5 hB173 1 rfl (by decide) hg_r0 (x := z_13.toInt) (rfl) (by omega) (j := 0) rfl dX11_commentEnd_69 (fun z_14 ez_14 (hz_14 : True) => ?_)
              have hqz_14 : z_14.toInt = (f0 ((v4_5.toInt + 1)).toNat).toInt := by rw [ez_14, show z_13.toInt = (v4_5.toInt + 1) by omega]
              first | have hqz_14_15 : z_14.toInt = (f0 (v4_5.toInt).toNat).toInt := by rw [ez_14, show z_13.toInt = v4_5.toInt by omega] | skip
              refine lv_bipush (v := 41) hx hb dX11_commentEnd_70 (by decide) ?_
              refine lv_icmp_ne (tgt := 90) hx hb dX11_commentEnd_72 (by decide) (fun c_16 => ?_) (fun c_16 => ?_)
              · skip
                have c_16' : z_14.toInt ≠ 41 := jb_ne (rfl) ((by decide)) c_16
                obtain ⟨z_17, ez_17⟩ : ∃ y : Int32, y = v4_5 + 1 := ⟨_, rfl⟩
                refine lv_iinc (v := z_17) (lv' := [(4, .int z_17), (0, .ref r0), (1, .int a1), (2, .int a2), (3, .int v3_5)]) hx hb dX11_commentEnd_90 hl (k := 4) rfl (by rw [ez_17]; rfl) (by decide) rfl (fun ls hl => ?_)
                have hz_17 : z_17.toInt = v4_5.toInt + 1 := by rw [ez_17]; exact jb_iadd2 (rfl) (by decide) (by omega)
                refine lv_goto (tgt := 18) hx hb dX11_commentEnd_93 (by decide) ?_
                exact L18 v3_5 z_17 (kf - 1) _ _ hh_5 (by refine ⟨by omega, by omega, by omega, by omega, by omega, ?_⟩; first | exact (jBc_op (by omega) (by omega) (by unfold jOpI; rw [if_pos (by omega)]) (by omega) (by omega)).trans hi_5_5 | exact (jBc_cl (by omega) (by omega) (by unfold jOpI; rw [if_neg (by omega)]) (by unfold jClI; rw [if_pos (by omega)]) (by omega) (by omega) (by omega)).trans hi_5_5 | exact (jBc_el (by omega) (by omega) (by unfold jOpI; rw [if_neg (by omega)]) (by unfold jClI; rw [if_neg (by omega)]) (by omega) (by omega)).trans hi_5_5) (by omega) _ (lv_sub hl [1, 2, 3, 4, 0] rfl)
              · skip
                have c_16' : z_14.toInt = 41 := jb_ne_n (rfl) ((by decide)) c_16
                obtain ⟨z_18, ez_18⟩ : ∃ y : Int32, y = v3_5 + (-1) := ⟨_, rfl⟩
                refine lv_iinc (v := z_18) (lv' := [(3, .int z_18), (0, .ref r0), (1, .int a1), (2, .int a2), (4, .int v4_5)]) hx hb dX11_commentEnd_75 hl (k := 3) rfl (by rw [ez_18]; rfl) (by decide) rfl (fun ls hl => ?_)
                have hz_18 : z_18.toInt = v3_5.toInt + (-1) := by rw [ez_18]; exact jb_iadd2 (rfl) (by decide) (by omega)
                obtain ⟨z_19, ez_19⟩ : ∃ y : Int32, y = v4_5 + 1 := ⟨_, rfl⟩
                refine lv_iinc (v := z_19) (lv' := [(4, .int z_19), (3, .int z_18), (0, .ref r0), (1, .int a1), (2, .int a2)]) hx hb dX11_commentEnd_78 hl (k := 4) rfl (by rw [ez_19]; rfl) (by decide) rfl (fun ls hl => ?_)
                have hz_19 : z_19.toInt = v4_5.toInt + 1 := by rw [ez_19]; exact jb_iadd2 (rfl) (by decide) (by omega)
                refine lv_iload_n hx hb dX11_commentEnd_81 rfl (lv_at hl 1 rfl) ?_
                refine lv_if_ne (tgt := 90) hx hb dX11_commentEnd_82 (by decide) (fun c_20 => ?_) (fun c_20 => ?_)
                · skip
                  have c_20' : z_18.toInt ≠ 0 := jb_ne (rfl) ((by decide)) c_20
                  obtain ⟨z_21, ez_21⟩ : ∃ y : Int32, y = z_19 + 1 := ⟨_, rfl⟩
                  refine lv_iinc (v := z_21) (lv' := [(4, .int z_21), (3, .int z_18), (0, .ref r0), (1, .int a1), (2, .int a2)]) hx hb dX11_commentEnd_90 hl (k := 0) rfl (by rw [ez_21]; rfl) (by decide) rfl (fun ls hl => ?_)
                  have hz_21 : z_21.toInt = z_19.toInt + 1 := by rw [ez_21]; exact jb_iadd2 (rfl) (by decide) (by omega)
                  refine lv_goto (tgt := 18) hx hb dX11_commentEnd_93 (by decide) ?_
                  exact L18 z_18 z_21 (kf - 1) _ _ hh_5 (by refine ⟨by omega, by omega, by omega, by omega, by omega, ?_⟩; first | exact (jBc_op (by omega) (by omega) (by unfold jOpI; rw [if_pos (by omega)]) (by omega) (by omega)).trans hi_5_5 | exact (jBc_cl (by omega) (by omega) (by unfold jOpI; rw [if_neg (by omega)]) (by unfold jClI; rw [if_pos (by omega)]) (by omega) (by omega) (by omega)).trans hi_5_5 | exact (jBc_el (by omega) (by omega) (by unfold jOpI; rw [if_neg (by omega)]) (by unfold jClI; rw [if_neg (by omega)]) (by omega) (by omega)).trans hi_5_5) (by omega) _ (lv_sub hl [2, 3, 4, 1, 0] rfl)
                · skip
                  have c_20' : z_18.toInt = 0 := jb_ne_n (rfl) ((by decide)) c_20
                  refine lv_iload hx hb dX11_commentEnd_85 (lv_at hl 0 rfl) ?_
                  refine lv_iconst (v := 1) hx hb dX11_commentEnd_87 (by decide) ?_
                  refine lv_iadd hx hb dX11_commentEnd_88 ?_
                  refine lv_topi (fun z_22 ez_22 => ?_)
                  have hz_22 : z_22.toInt = z_19.toInt + 1 := by rw [ez_22]; exact jb_iadd2 (rfl) ((by decide)) (by omega)
                  rw [hQ]
                  exact W.iret (v := z_22) hx hb hr (fun t ht hW => ⟨⟨z_22, (), rfl, by refine ⟨?_, by omega⟩; unfold jCe; rw [if_pos (by omega)]; exact (jBc_end (by omega) (by omega) (by unfold jOpI; rw [if_neg (by omega)]) (by unfold jClI; rw [if_pos (by omega)]) (by omega) (by omega)).trans hi_5_5, hh_5.rt (M1 := []) [] rfl ht⟩, by rw [ht]; try exact hh_5.1.1, fun q h9 hq => by rw [ht]; try exact hh_5.1.2.1 q h9 hq⟩) hh_5.1.2.2 dX11_commentEnd_89
          · skip
            have c_9' : z_8.toInt = 40 := jb_ne_n (rfl) ((by decide)) c_9
            refine lv_aload_n hx hb dX11_commentEnd_35 rfl (lv_at hl 0 rfl) ?_
            refine lv_iload hx hb dX11_commentEnd_36 (lv_at hl 4 rfl) ?_
            refine lv_iconst (v := 1) hx hb dX11_commentEnd_38 (by decide) ?_
            refine lv_iadd hx hb dX11_commentEnd_39 ?_
            refine lv_topi (fun z_23 ez_23 => ?_)
            have hz_23 : z_23.toInt = v4_5.toInt + 1 := by rw [ez_23]; exact jb_iadd2 (rfl) ((by decide)) (by omega)
            refine j7_ialdM hx hb hK hh_5 hB173 1 rfl (by decide) hg_r0 (x := z_23.toInt) (rfl) (by omega) (j := 0) rfl dX11_commentEnd_40 (fun z_24 ez_24 (hz_24 : True) => ?_)
            have hqz_24 : z_24.toInt = (f0 ((v4_5.toInt + 1)).toNat).toInt := by rw [ez_24, show z_23.toInt = (v4_5.toInt + 1) by omega]
            first | have hqz_24_25 : z_24.toInt = (f0 (v4_5.toInt).toNat).toInt := by rw [ez_24, show z_23.toInt = v4_5.toInt by omega] | skip
            refine lv_bipush (v := 42) hx hb dX11_commentEnd_41 (by decide) ?_
            refine lv_icmp_ne (tgt := 55) hx hb dX11_commentEnd_43 (by decide) (fun c_26 => ?_) (fun c_26 => ?_)
            · skip
              have c_26' : z_24.toInt ≠ 42 := jb_ne (rfl) ((by decide)) c_26
              refine lv_aload_n hx hb dX11_commentEnd_55 rfl (lv_at hl 0 rfl) ?_
              refine lv_iload hx hb dX11_commentEnd_56 (lv_at hl 4 rfl) ?_
              refine j7_ialdM hx hb hK hh_5 hB173 1 rfl (by decide) hg_r0 (x := v4_5.toInt) (rfl) (by omega) (j := 0) rfl dX11_commentEnd_58 (fun z_27 ez_27 (hz_27 : True) => ?_)
              have hqz_27 : z_27.toInt = (f0 (v4_5.toInt).toNat).toInt := by rw [ez_27]
              first | have hqz_27_28 : z_27.toInt = (f0 ((v4_5.toInt + 1)).toNat).toInt := by rw [ez_27, show v4_5.toInt = (v4_5.toInt + 1) by omega] | skip
              refine lv_bipush (v := 42) hx hb dX11_commentEnd_59 (by decide) ?_
              refine lv_icmp_ne (tgt := 90) hx hb dX11_commentEnd_61 (by decide) (fun c_29 => ?_) (fun c_29 => ?_)
              · skip
                have c_29' : z_27.toInt ≠ 42 := jb_ne (rfl) ((by decide)) c_29
                obtain ⟨z_30, ez_30⟩ : ∃ y : Int32, y = v4_5 + 1 := ⟨_, rfl⟩
                refine lv_iinc (v := z_30) (lv' := [(4, .int z_30), (0, .ref r0), (1, .int a1), (2, .int a2), (3, .int v3_5)]) hx hb dX11_commentEnd_90 hl (k := 4) rfl (by rw [ez_30]; rfl) (by decide) rfl (fun ls hl => ?_)
                have hz_30 : z_30.toInt = v4_5.toInt + 1 := by rw [ez_30]; exact jb_iadd2 (rfl) (by decide) (by omega)
                refine lv_goto (tgt := 18) hx hb dX11_commentEnd_93 (by decide) ?_
                exact L18 v3_5 z_30 (kf - 1) _ _ hh_5 (by refine ⟨by omega, by omega, by omega, by omega, by omega, ?_⟩; first | exact (jBc_op (by omega) (by omega) (by unfold jOpI; rw [if_pos (by omega)]) (by omega) (by omega)).trans hi_5_5 | exact (jBc_cl (by omega) (by omega) (by unfold jOpI; rw [if_neg (by omega)]) (by unfold jClI; rw [if_pos (by omega)]) (by omega) (by omega) (by omega)).trans hi_5_5 | exact (jBc_el (by omega) (by omega) (by unfold jOpI; rw [if_neg (by omega)]) (by unfold jClI; rw [if_neg (by omega)]) (by omega) (by omega)).trans hi_5_5) (by omega) _ (lv_sub hl [1, 2, 3, 4, 0] rfl)
              · skip
                have c_29' : z_27.toInt = 42 := jb_ne_n (rfl) ((by decide)) c_29
                refine lv_aload_n hx hb dX11_commentEnd_64 rfl (lv_at hl 0 rfl) ?_
                refine lv_iload hx hb dX11_commentEnd_65 (lv_at hl 4 rfl) ?_
                refine lv_iconst (v := 1) hx hb dX11_commentEnd_67 (by decide) ?_
                refine lv_iadd hx hb dX11_commentEnd_68 ?_
                refine lv_topi (fun z_31 ez_31 => ?_)
                have hz_31 : z_31.toInt = v4_5.toInt + 1 := by rw [ez_31]; exact jb_iadd2 (rfl) ((by decide)) (by omega)
                refine j7_ialdM hx hb hK hh_5 hB173 1 rfl (by decide) hg_r0 (x := z_31.toInt) (rfl) (by omega) (j := 0) rfl dX11_commentEnd_69 (fun z_32 ez_32 (hz_32 : True) => ?_)
                have hqz_32 : z_32.toInt = (f0 ((v4_5.toInt + 1)).toNat).toInt := by rw [ez_32, show z_31.toInt = (v4_5.toInt + 1) by omega]
                first | have hqz_32_33 : z_32.toInt = (f0 (v4_5.toInt).toNat).toInt := by rw [ez_32, show z_31.toInt = v4_5.toInt by omega] | skip
                refine lv_bipush (v := 41) hx hb dX11_commentEnd_70 (by decide) ?_
                refine lv_icmp_ne (tgt := 90) hx hb dX11_commentEnd_72 (by decide) (fun c_34 => ?_) (fun c_34 => ?_)
                · skip
                  have c_34' : z_32.toInt ≠ 41 := jb_ne (rfl) ((by decide)) c_34
                  obtain ⟨z_35, ez_35⟩ : ∃ y : Int32, y = v4_5 + 1 := ⟨_, rfl⟩
                  refine lv_iinc (v := z_35) (lv' := [(4, .int z_35), (0, .ref r0), (1, .int a1), (2, .int a2), (3, .int v3_5)]) hx hb dX11_commentEnd_90 hl (k := 4) rfl (by rw [ez_35]; rfl) (by decide) rfl (fun ls hl => ?_)
                  have hz_35 : z_35.toInt = v4_5.toInt + 1 := by rw [ez_35]; exact jb_iadd2 (rfl) (by decide) (by omega)
                  refine lv_goto (tgt := 18) hx hb dX11_commentEnd_93 (by decide) ?_
                  exact L18 v3_5 z_35 (kf - 1) _ _ hh_5 (by refine ⟨by omega, by omega, by omega, by omega, by omega, ?_⟩; first | exact (jBc_op (by omega) (by omega) (by unfold jOpI; rw [if_pos (by omega)]) (by omega) (by omega)).trans hi_5_5 | exact (jBc_cl (by omega) (by omega) (by unfold jOpI; rw [if_neg (by omega)]) (by unfold jClI; rw [if_pos (by omega)]) (by omega) (by omega) (by omega)).trans hi_5_5 | exact (jBc_el (by omega) (by omega) (by unfold jOpI; rw [if_neg (by omega)]) (by unfold jClI; rw [if_neg (by omega)]) (by omega) (by omega)).trans hi_5_5) (by omega) _ (lv_sub hl [1, 2, 3, 4, 0] rfl)
                · skip
                  have c_34' : z_32.toInt = 41 := jb_ne_n (rfl) ((by decide)) c_34
                  obtain ⟨z_36, ez_36⟩ : ∃ y : Int32, y = v3_5 + (-1) := ⟨_, rfl⟩
                  refine lv_iinc (v := z_36) (lv' := [(3, .int z_36), (0, .ref r0), (1, .int a1), (2, .int a2), (4, .int v4_5)]) hx hb dX11_commentEnd_75 hl (k := 3) rfl (by rw [ez_36]; rfl) (by decide) rfl (fun ls hl => ?_)
                  have hz_36 : z_36.toInt = v3_5.toInt + (-1) := by rw [ez_36]; exact jb_iadd2 (rfl) (by decide) (by omega)
                  obtain ⟨z_37, ez_37⟩ : ∃ y : Int32, y = v4_5 + 1 := ⟨_, rfl⟩
                  refine lv_iinc (v := z_37) (lv' := [(4, .int z_37), (3, .int z_36), (0, .ref r0), (1, .int a1), (2, .int a2)]) hx hb dX11_commentEnd_78 hl (k := 4) rfl (by rw [ez_37]; rfl) (by decide) rfl (fun ls hl => ?_)
                  have hz_37 : z_37.toInt = v4_5.toInt + 1 := by rw [ez_37]; exact jb_iadd2 (rfl) (by decide) (by omega)
                  refine lv_iload_n hx hb dX11_commentEnd_81 rfl (lv_at hl 1 rfl) ?_
                  refine lv_if_ne (tgt := 90) hx hb dX11_commentEnd_82 (by decide) (fun c_38 => ?_) (fun c_38 => ?_)
                  · skip
                    have c_38' : z_36.toInt ≠ 0 := jb_ne (rfl) ((by decide)) c_38
                    obtain ⟨z_39, ez_39⟩ : ∃ y : Int32, y = z_37 + 1 := ⟨_, rfl⟩
                    refine lv_iinc (v := z_39) (lv' := [(4, .int z_39), (3, .int z_36), (0, .ref r0), (1, .int a1), (2, .int a2)]) hx hb dX11_commentEnd_90 hl (k := 0) rfl (by rw [ez_39]; rfl) (by decide) rfl (fun ls hl => ?_)
                    have hz_39 : z_39.toInt = z_37.toInt + 1 := by rw [ez_39]; exact jb_iadd2 (rfl) (by decide) (by omega)
                    refine lv_goto (tgt := 18) hx hb dX11_commentEnd_93 (by decide) ?_
                    exact L18 z_36 z_39 (kf - 1) _ _ hh_5 (by refine ⟨by omega, by omega, by omega, by omega, by omega, ?_⟩; first | exact (jBc_op (by omega) (by omega) (by unfold jOpI; rw [if_pos (by omega)]) (by omega) (by omega)).trans hi_5_5 | exact (jBc_cl (by omega) (by omega) (by unfold jOpI; rw [if_neg (by omega)]) (by unfold jClI; rw [if_pos (by omega)]) (by omega) (by omega) (by omega)).trans hi_5_5 | exact (jBc_el (by omega) (by omega) (by unfold jOpI; rw [if_neg (by omega)]) (by unfold jClI; rw [if_neg (by omega)]) (by omega) (by omega)).trans hi_5_5) (by omega) _ (lv_sub hl [2, 3, 4, 1, 0] rfl)
                  · skip
                    have c_38' : z_36.toInt = 0 := jb_ne_n (rfl) ((by decide)) c_38
                    refine lv_iload hx hb dX11_commentEnd_85 (lv_at hl 0 rfl) ?_
                    refine lv_iconst (v := 1) hx hb dX11_commentEnd_87 (by decide) ?_
                    refine lv_iadd hx hb dX11_commentEnd_88 ?_
                    refine lv_topi (fun z_40 ez_40 => ?_)
                    have hz_40 : z_40.toInt = z_37.toInt + 1 := by rw [ez_40]; exact jb_iadd2 (rfl) ((by decide)) (by omega)
                    rw [hQ]
                    exact W.iret (v := z_40) hx hb hr (fun t ht hW => ⟨⟨z_40, (), rfl, by refine ⟨?_, by omega⟩; unfold jCe; rw [if_pos (by omega)]; exact (jBc_end (by omega) (by omega) (by unfold jOpI; rw [if_neg (by omega)]) (by unfold jClI; rw [if_pos (by omega)]) (by omega) (by omega)).trans hi_5_5, hh_5.rt (M1 := []) [] rfl ht⟩, by rw [ht]; try exact hh_5.1.1, fun q h9 hq => by rw [ht]; try exact hh_5.1.2.1 q h9 hq⟩) hh_5.1.2.2 dX11_commentEnd_89
            · skip
              have c_26' : z_24.toInt = 42 := jb_ne_n (rfl) ((by decide)) c_26
              obtain ⟨z_41, ez_41⟩ : ∃ y : Int32, y = v3_5 + 1 := ⟨_, rfl⟩
              refine lv_iinc (v := z_41) (lv' := [(3, .int z_41), (0, .ref r0), (1, .int a1), (2, .int a2), (4, .int v4_5)]) hx hb dX11_commentEnd_46 hl (k := 3) rfl (by rw [ez_41]; rfl) (by decide) rfl (fun ls hl => ?_)
              have hz_41 : z_41.toInt = v3_5.toInt + 1 := by rw [ez_41]; exact jb_iadd2 (rfl) (by decide) (by omega)
              obtain ⟨z_42, ez_42⟩ : ∃ y : Int32, y = v4_5 + 1 := ⟨_, rfl⟩
              refine lv_iinc (v := z_42) (lv' := [(4, .int z_42), (3, .int z_41), (0, .ref r0), (1, .int a1), (2, .int a2)]) hx hb dX11_commentEnd_49 hl (k := 4) rfl (by rw [ez_42]; rfl) (by decide) rfl (fun ls hl => ?_)
              have hz_42 : z_42.toInt = v4_5.toInt + 1 := by rw [ez_42]; exact jb_iadd2 (rfl) (by decide) (by omega)
              refine lv_goto (tgt := 90) hx hb dX11_commentEnd_52 (by decide) ?_
              obtain ⟨z_43, ez_43⟩ : ∃ y : Int32, y = z_42 + 1 := ⟨_, rfl⟩
              refine lv_iinc (v := z_43) (lv' := [(4, .int z_43), (3, .int z_41), (0, .ref r0), (1, .int a1), (2, .int a2)]) hx hb dX11_commentEnd_90 hl (k := 0) rfl (by rw [ez_43]; rfl) (by decide) rfl (fun ls hl => ?_)
              have hz_43 : z_43.toInt = z_42.toInt + 1 := by rw [ez_43]; exact jb_iadd2 (rfl) (by decide) (by omega)
              refine lv_goto (tgt := 18) hx hb dX11_commentEnd_93 (by decide) ?_
              exact L18 z_41 z_43 (kf - 1) _ _ hh_5 (by refine ⟨by omega, by omega, by omega, by omega, by omega, ?_⟩; first | exact (jBc_op (by omega) (by omega) (by unfold jOpI; rw [if_pos (by omega)]) (by omega) (by omega)).trans hi_5_5 | exact (jBc_cl (by omega) (by omega) (by unfold jOpI; rw [if_neg (by omega)]) (by unfold jClI; rw [if_pos (by omega)]) (by omega) (by omega) (by omega)).trans hi_5_5 | exact (jBc_el (by omega) (by omega) (by unfold jOpI; rw [if_neg (by omega)]) (by unfold jClI; rw [if_neg (by omega)]) (by omega) (by omega)).trans hi_5_5) (by omega) _ (lv_sub hl [2, 3, 4, 1, 0] rfl)
    exact L18 (a2.toInt - (z_4 : Int32).toInt : Int).toNat.succ 1 z_4 ((a2.toInt - a1.toInt).toNat + 1 - 1) _ _ hh_1 (by refine ⟨by omega, by omega, by omega, by omega, by omega, ?_⟩; exact jBc_op (by omega) (by omega) (by omega) (by omega) (by omega)) (by omega) _ (lv_sub hl [2, 3, 4, 1, 0] rfl)
  · skip
    have c_3' : r_2.toInt = 0 := jb_ne_n (rfl) ((by decide)) c_3
    first | (have hr_2p_1q := hr_2p_1.resolve_left (by omega); clear hr_2p_1) | (have hr_2p_1q := hr_2p_1.resolve_right (by omega); clear hr_2p_1) | try clear hr_2p_1
    refine lv_iconst (v := (-1)) hx hb dX11_commentEnd_9 (by decide) ?_
    rw [hQ]
    exact W.iret (v := (-1)) hx hb hr (fun t ht hW => ⟨⟨(-1), (), rfl, by refine ⟨?_, by omega⟩; unfold jCe; rw [if_neg (by omega)]; rfl, hh_1.rt (M1 := []) [] rfl ht⟩, by rw [ht]; try exact hh_1.1.1, fun q h9 hq => by rw [ht]; try exact hh_1.1.2.1 q h9 hq⟩) hh_1.1.2.2 dX11_commentEnd_10
set_option maxHeartbeats 4000000 in
set_option maxRecDepth 20000 in
theorem uX1_sentenceBeginP (l : Launch) (dC : Nat → ClassId) (dI : Nat → Nat → Nat) (ca : Nat → ClassId) (base : Nat) (B : jF) (hB : jBok B) (hAp : jAp (dC, dI)) (hB3 : ∀ n G a H, B 3 n G a H ↔ jOb (dC, dI) 3 17 (F3 n G) a H) (hB101 : ∀ n G a H, B 101 n G a H ↔ jAr (dC, dI) (ca 1) (fun j z => True) n a H) (hB173 : ∀ n G a H, B 173 n G a H ↔ jAr (dC, dI) (ca 1) (fun j z => True) n a H) (G0 : jT) (H0 : Heap) (r0 : Nat) (a1 : Int32) (n0 : Nat) (pl : Int32) (tx_ : Nat) (ft : Nat → Int32) : Met l yX1_sentenceBegin (jw yX1_sentenceBegin cX1_sentenceBegin 5 (some .int)) ({ frames := 2, cells := 0, slots := 0, locals := 46 }) (va_Pc [.ref r0, .int a1] (fun U => U.heap = H0 ∧ jX B base G0 [] H0 ∧ jG dC dI ca base U ∧ G0 r0 = some (3, n0) ∧ G0 tx_ = some (173, 1500) ∧ jP (dC, dI) G0 H0 [(r0, 3, 3, .int pl), (r0, 3, 2, .ref tx_)] ∧ jMc (dC, dI) G0 H0 [(tx_, 173, 1500, ca 1, ft)] ∧ 0 ≤ a1.toInt ∧ a1.toInt ≤ pl.toInt ∧ pl.toInt ≤ 1500)) (va_Qi (S := Unit) (fun r u => (r.toInt = jGap ft pl.toInt a1.toInt ∧ a1.toInt ≤ r.toInt ∧ r.toInt ≤ pl.toInt)) (fun u t => jRt (dC, dI) B base G0 EX1_sentenceBeginP H0 [] t.heap) (jA base)) 0 0 (jA base) := by
  refine Met.ofW (cc := cX1_sentenceBegin) (maxL := 5) (ret := (some .int)) (by decide) rfl ?_
  intro p e s m args below meth c s₁ Bd hml hv
  obtain ⟨rfl, hH0, hX, hG, hg_r0, hg_tx_, hP0, hM0, hp0, hp1, hp2⟩ := hv
  have hK := hG.1
  have hx := Bd.exec
  have hb := Bd.bytes
  have hr := Bd.returns
  have hts := atoms_spec (ws := (jw yX1_sentenceBegin cX1_sentenceBegin 5 (some .int))) Bd.pre
  have htw : ∀ w ∈ jWl, w.before _ s = true := fun w h => hts w (List.mem_cons_of_mem _ h)
  have hown : s.vm.findClass RX1 = some m.cls := findClass_of_methodNamed Bd.named
  have hlocks := Bd.notSynchronized
  obtain ⟨Q, hQ⟩ : ∃ Q, Q = MQ below (va_Qi (S := Unit) (fun r u => (r.toInt = jGap ft pl.toInt a1.toInt ∧ a1.toInt ≤ r.toInt ∧ r.toInt ≤ pl.toInt)) (fun u t => jRt (dC, dI) B base G0 EX1_sentenceBeginP H0 [] t.heap) (jA base)) ([.ref r0, .int a1] : List Value).toArray s 0 0 (jA base) := ⟨_, rfl⟩
  rw [← hQ]
  have hl := lv_entry ([.ref r0, .int a1]) (n := 5) (Nat.le_of_ble_eq_true rfl)
  rw [lg_entry_eq]
  generalize (lg_sl ([.ref r0, .int a1]) ++ List.replicate (5 - (lg_sl ([.ref r0, .int a1])).length) Slot.unset).toArray = ls at hl ⊢
  have hl : lv_has ls 5 [(0, .ref r0), (1, .int a1)] := hl
  generalize hR : (headSpec (jw yX1_sentenceBegin cX1_sentenceBegin 5 (some .int)) ({ frames := 2, cells := 0, slots := 0, locals := 46 })).room = R
  subst hH0
  have hh : jSt (dC, dI) B base G0 G0 EX1_sentenceBeginP s.heap 0 0 [(r0, 3, 3, .int pl), (r0, 3, 2, .ref tx_)] [(tx_, 173, 1500, ca 1, ft)] [] s.heap [] := jSt.start hX hP0 hM0 jIs.nil
  clear hX hP0
  have hk0 : (0 : Int32).toInt = 0 := by decide
  have hk1 : (1 : Int32).toInt = 1 := by decide
  have hly_3_2 := htw (u_lay RX1 TX1 2) (jWc_wsX10 _ (u_in_lay (by decide)))
  have hly_3_3 := htw (u_lay RX1 TX1 3) (jWc_wsX10 _ (u_in_lay (by decide)))
  have hlk_42 := (htw (.fieldLink RX1 42 "ProofServer$Document" "length" "I") (jWr_29 _ (List.mem_of_getElem? (i := 5) rfl)))
  have hlk_15 := (htw (.fieldLink RX1 15 "ProofServer$Document" "text" "[I") (jWr_10 _ (List.mem_of_getElem? (i := 6) rfl)))
  have hrg_a1 := jb_rng a1
  refine lv_iload_n hx hb dX1_sentenceBegin_0 rfl (lv_at hl 1 rfl) ?_
  refine lv_istore_n (lv' := [(2, .int a1), (0, .ref r0), (1, .int a1)]) hx hb dX1_sentenceBegin_1 rfl hl (by decide) rfl (fun ls hl => ?_)
  refine lv_iconst (v := 0) hx hb dX1_sentenceBegin_2 (by decide) ?_
  refine lv_istore_n (lv' := [(3, .int 0), (2, .int a1), (0, .ref r0), (1, .int a1)]) hx hb dX1_sentenceBegin_3 rfl hl (by decide) rfl (fun ls hl => ?_)
  have L4 : ∀ (N : Nat) (v2_1 : Int32) (v3_1 : Int32) (kf : Nat) (H_1 : Heap) (locs_1 : List Loc), jSt (dC, dI) B base G0 G0 EX1_sentenceBeginP s.heap 0 0 [(r0, 3, 3, .int pl), (r0, 3, 2, .ref tx_)] [(tx_, 173, 1500, ca 1, ft)] [] H_1 locs_1 → (a1.toInt ≤ v2_1.toInt ∧ v2_1.toInt ≤ pl.toInt ∧ 0 ≤ v3_1.toInt ∧ v3_1.toInt ≤ v2_1.toInt ∧ pl.toInt - v2_1.toInt < kf ∧ jGa ft pl.toInt kf v2_1.toInt = jGap ft pl.toInt a1.toInt) → (pl.toInt - v2_1.toInt : Int) < N → ∀ ls : Array Slot, lv_has ls 5 [(0, .ref r0), (1, .int a1), (2, .int v2_1), (3, .int v3_1)] → W p l e R s m ([.ref r0, .int a1] : List Value).toArray below meth c H_1 locs_1 0 0 Q (F0 m 4 ls []) := by
    intro N
    induction N with
    | zero => intro v2_1 v3_1 kf H_1 locs_1 hh_1  hi_1 hm; exact absurd hm (by omega)
    | succ N L4 =>
      intro v2_1 v3_1 kf H_1 locs_1 hh_1  hi_1 hm_1 ls hl
      obtain ⟨hi_1_0, hi_1_1, hi_1_2, hi_1_3, hi_1_4, hi_1_5⟩ := hi_1
      refine lv_iload_n hx hb dX1_sentenceBegin_4 rfl (lv_at hl 3 rfl) ?_
      refine lv_aload_n hx hb dX1_sentenceBegin_5 rfl (lv_at hl 0 rfl) ?_
      refine j7_read hx hb hown hK (C := RX1) (T := TX1) (N := 17) rfl hly_3_3 hlk_42 (hh_1.at 0 rfl) dX1_sentenceBegin_6 ?_
      refine lv_icmp_gt (tgt := 68) hx hb dX1_sentenceBegin_9 (by decide) (fun c_2 => ?_) (fun c_2 => ?_)
      · skip
        have c_2' : v3_1.toInt > pl.toInt := jb_gt (rfl) (rfl) c_2
        exact absurd c_2' (by omega)
      · skip
        have c_2' : v3_1.toInt ≤ pl.toInt := jb_gt_n (rfl) (rfl) c_2
        refine lv_iload_n hx hb dX1_sentenceBegin_12 rfl (lv_at hl 2 rfl) ?_
        refine lv_aload_n hx hb dX1_sentenceBegin_13 rfl (lv_at hl 0 rfl) ?_
        refine j7_read hx hb hown hK (C := RX1) (T := TX1) (N := 17) rfl hly_3_3 hlk_42 (hh_1.at 0 rfl) dX1_sentenceBegin_14 ?_
        refine lv_icmp_ge (tgt := 68) hx hb dX1_sentenceBegin_17 (by decide) (fun c_3 => ?_) (fun c_3 => ?_)
        · skip
          have c_3' : v2_1.toInt ≥ pl.toInt := jb_ge (rfl) (rfl) c_3
          refine lv_iload_n hx hb dX1_sentenceBegin_68 rfl (lv_at hl 2 rfl) ?_
          rw [hQ]
          exact W.iret (v := v2_1) hx hb hr (fun t ht hW => ⟨⟨v2_1, (), rfl, by refine ⟨?_, by omega, by omega⟩; exact (jGa_n (by omega) (by omega) (by omega)).trans hi_1_5, hh_1.rt (M1 := []) [] rfl ht⟩, by rw [ht]; try exact hh_1.1.1, fun q h9 hq => by rw [ht]; try exact hh_1.1.2.1 q h9 hq⟩) hh_1.1.2.2 dX1_sentenceBegin_69
        · skip
          have c_3' : v2_1.toInt < pl.toInt := jb_ge_n (rfl) (rfl) c_3
          refine lv_aload_n hx hb dX1_sentenceBegin_20 rfl (lv_at hl 0 rfl) ?_
          refine j7_read hx hb hown hK (C := RX1) (T := TX1) (N := 17) rfl hly_3_2 hlk_15 (hh_1.at 1 rfl) dX1_sentenceBegin_21 ?_
          refine lv_iload_n hx hb dX1_sentenceBegin_24 rfl (lv_at hl 2 rfl) ?_
          refine j7_ialdM hx hb hK hh_1 hB173 1 rfl (by decide) hg_tx_ (x := v2_1.toInt) (rfl) (by omega) (j := 0) rfl dX1_sentenceBegin_25 (fun z_4 ez_4 (hz_4 : True) => ?_)
          have hqz_4 : z_4.toInt = jSo ft (v2_1.toInt) := by unfold jSo; rw [ez_4]
          refine va_calli (A0 := jA base) (H0 := s.heap) (va_runSN (As := [.int z_4]) (rest := []) ⟨hx, hb, hml, hown, hts⟩ (uX11_isBlankP l dC dI ca base B hB hAp G0 H_1 z_4) ⟨va_cnB 1 hts (jgW (jWr_20 _ (List.mem_of_getElem? (i := 0) rfl))) rfl rfl rfl (hG.2.2.1 RX1 87 yX11_isBlank "ProofServer" (List.mem_of_getElem? (i := 1119) (by decide +kernel))) (htw (.initialized RX11) (jWr_1 _ (List.mem_of_getElem? (i := 2) rfl))) (by decide +kernel) ⟨by rw [← hR]; exact Nat.le_of_ble_eq_true rfl, by rw [← hR]; exact Nat.le_of_ble_eq_true rfl⟩, htw (.static yX11_isBlank) (jWr_19 _ (List.mem_of_getElem? (i := 23) rfl)), trivial⟩ ⟨fun a U g mk q => by obtain ⟨q0, q1, q2, qK, q10, q11⟩ := q; exact ⟨q0, q1, q2, jG.calling g mk a qK, q10, q11⟩, fun U hU hW => ⟨rfl, hU, hh_1.2.1, hG.step hW hU hh_1.1, jP.nil, trivial⟩⟩ rfl rfl hl.1 rfl (lv_room (Nat.le_of_ble_eq_true rfl)) dX1_sentenceBegin_26 ⟨Nat.zero_le _, Nat.zero_le _⟩) hh_1.1 (fun q _ h => h) (fun q h => h) (fun r_6 u_5 t_5 H_5 locs_5 ht_5 hvm_5 hr_6 hb_5 hz_5 hk_5 hS_5 => ?_)
          rw [ht_5] at hb_5
          obtain ⟨hb_51, hb_52, hb_53, hb_54, hb_55⟩ := hb_5
          have hh_5 : jSt (dC, dI) B base G0 G0 EX1_sentenceBeginP s.heap 0 0 [(r0, 3, 3, .int pl), (r0, 3, 2, .ref tx_)] [(tx_, 173, 1500, ca 1, ft)] [] H_5 locs_5 := ((hh_1.call hb_51 hb_52 hb_53 hb_54 hS_5 rfl (L1 := [(r0, 3, 3, .int pl), (r0, 3, 2, .ref tx_)]) [0, 1] rfl rfl (M1 := [(tx_, 173, 1500, ca 1, ft)]) [0] rfl rfl (I1 := []) [] rfl rfl).more hb_55)
          clear hh_1 ht_5 hvm_5 hz_5 hk_5 hS_5 hb_51 hb_52 hb_53 hb_54 hb_55
          obtain ⟨hr_6b, hr_6p⟩ := hr_6
          have hr_6' := jb_01 hr_6b
          refine lv_if_eq (tgt := 38) hx hb dX1_sentenceBegin_29 (by decide) (fun c_7 => ?_) (fun c_7 => ?_)
          · skip
            have c_7' : r_6.toInt = 0 := jb_eq (rfl) ((by decide)) c_7
            refine lv_aload_n hx hb dX1_sentenceBegin_38 rfl (lv_at hl 0 rfl) ?_
            refine j7_read hx hb hown hK (C := RX1) (T := TX1) (N := 17) rfl hly_3_2 hlk_15 (hh_5.at 1 rfl) dX1_sentenceBegin_39 ?_
            refine lv_iload_n hx hb dX1_sentenceBegin_42 rfl (lv_at hl 2 rfl) ?_
            refine lv_aload_n hx hb dX1_sentenceBegin_43 rfl (lv_at hl 0 rfl) ?_
            refine j7_read hx hb hown hK (C := RX1) (T := TX1) (N := 17) rfl hly_3_3 hlk_42 (hh_5.at 0 rfl) dX1_sentenceBegin_44 ?_
            refine va_calli (A0 := jA base) (H0 := s.heap) (va_runSN (As := [.ref tx_, .int v2_1, .int pl]) (rest := []) ⟨hx, hb, hml, hown, hts⟩ (uX11_commentEndPt9 l dC dI ca base B hB hAp hB101 hB173 G0 H_5 tx_ v2_1 pl 1500 ft) ⟨va_cnB 3 hts (jgW (jWr_36 _ (List.mem_of_getElem? (i := 11) rfl))) rfl rfl rfl (hG.2.2.1 RX1 91 yX11_commentEnd "ProofServer" (List.mem_of_getElem? (i := 1120) (by decide +kernel))) (htw (.initialized RX11) (jWr_1 _ (List.mem_of_getElem? (i := 2) rfl))) (by decide +kernel) ⟨by rw [← hR]; exact Nat.le_of_ble_eq_true rfl, by rw [← hR]; exact Nat.le_of_ble_eq_true rfl⟩, htw (.static yX11_commentEnd) (jWr_36 _ (List.mem_of_getElem? (i := 10) rfl)), trivial⟩ ⟨fun a U g mk q => by obtain ⟨q0, q1, q2, qK, q10, q11, q12, q13⟩ := q; exact ⟨q0, q1, q2, jG.calling g mk a qK, q10, q11, q12, q13⟩, fun U hU hW => ⟨rfl, hU, hh_5.2.1, hG.step hW hU hh_5.1, hg_tx_, jP.nil, (hh_5.2.2.2.2.2.2.2.1.sub (L1 := [(tx_, 173, 1500, ca 1, ft)]) [0] rfl), by first | omega | (refine ⟨?_, ?_, ?_, ?_⟩ <;> (first | omega | rfl | assumption | decide | exact Or.inl rfl | exact Or.inr rfl | (simp only; omega)))⟩⟩ rfl rfl hl.1 rfl (lv_room (Nat.le_of_ble_eq_true rfl)) dX1_sentenceBegin_47 ⟨Nat.zero_le _, Nat.zero_le _⟩) hh_5.1 (fun q _ h => h) (fun q h => h) (fun r_9 u_8 t_8 H_8 locs_8 ht_8 hvm_8 hr_9 hb_8 hz_8 hk_8 hS_8 => ?_)
            rw [ht_8] at hb_8
            obtain ⟨hb_81, hb_82, hb_83, hb_84, hb_85⟩ := hb_8
            have hh_8 : jSt (dC, dI) B base G0 G0 EX1_sentenceBeginP s.heap 0 0 [(r0, 3, 3, .int pl), (r0, 3, 2, .ref tx_)] [(tx_, 173, 1500, ca 1, ft)] [] H_8 locs_8 := ((hh_5.call hb_81 hb_82 hb_83 hb_84 hS_8 rfl (L1 := [(r0, 3, 3, .int pl), (r0, 3, 2, .ref tx_)]) [0, 1] rfl rfl (M1 := [(tx_, 173, 1500, ca 1, ft)]) [0] rfl rfl (I1 := []) [] rfl rfl).more hb_85)
            clear hh_5 ht_8 hvm_8 hz_8 hk_8 hS_8 hb_81 hb_82 hb_83 hb_84 hb_85
            obtain ⟨hr_9_0, hr_9_1⟩ := hr_9
            refine lv_istore (lv' := [(4, .int r_9), (0, .ref r0), (1, .int a1), (2, .int v2_1), (3, .int v3_1)]) hx hb dX1_sentenceBegin_50 hl (by decide) rfl (fun ls hl => ?_)
            refine lv_iload hx hb dX1_sentenceBegin_52 (lv_at hl 0 rfl) ?_
            refine lv_if_ge (tgt := 59) hx hb dX1_sentenceBegin_54 (by decide) (fun c_10 => ?_) (fun c_10 => ?_)
            · skip
              have c_10' : r_9.toInt ≥ 0 := jb_ge (rfl) ((by decide)) c_10
              first | (have hr_9_1q := hr_9_1.resolve_left (by omega); clear hr_9_1) | (have hr_9_1q := hr_9_1.resolve_right (by omega); clear hr_9_1) | skip
              refine lv_iload hx hb dX1_sentenceBegin_59 (lv_at hl 0 rfl) ?_
              refine lv_istore_n (lv' := [(2, .int r_9), (4, .int r_9), (0, .ref r0), (1, .int a1), (3, .int v3_1)]) hx hb dX1_sentenceBegin_61 rfl hl (by decide) rfl (fun ls hl => ?_)
              obtain ⟨z_11, ez_11⟩ : ∃ y : Int32, y = v3_1 + 1 := ⟨_, rfl⟩
              refine lv_iinc (v := z_11) (lv' := [(3, .int z_11), (2, .int r_9), (4, .int r_9), (0, .ref r0), (1, .int a1)]) hx hb dX1_sentenceBegin_62 hl (k := 4) rfl (by rw [ez_11]; rfl) (by decide) rfl (fun ls hl => ?_)
              have hz_11 : z_11.toInt = v3_1.toInt + 1 := by rw [ez_11]; exact jb_iadd2 (rfl) (by decide) (by omega)
              refine lv_goto (tgt := 4) hx hb dX1_sentenceBegin_65 (by decide) ?_
              exact L4 r_9 z_11 (kf - 1) _ _ hh_8 (by refine ⟨by omega, by omega, by omega, by omega, by omega, ?_⟩; first | exact (jGa_b (by omega) (by omega) (by rw [← hqz_4, ← hr_6p]; omega) (by omega)).trans hi_1_5 | exact (jGa_c (by omega) (by omega) (by rw [← hqz_4, ← hr_6p]; omega) (jCe.yes hr_9_0 (by omega)).1 (by omega) (jCe.yes hr_9_0 (by omega)).2).trans hi_1_5) (by omega) _ (lv_sub hl [3, 4, 1, 0] rfl)
            · skip
              have c_10' : r_9.toInt < 0 := jb_ge_n (rfl) ((by decide)) c_10
              first | (have hr_9_1q := hr_9_1.resolve_left (by omega); clear hr_9_1) | (have hr_9_1q := hr_9_1.resolve_right (by omega); clear hr_9_1) | skip
              refine lv_iload_n hx hb dX1_sentenceBegin_57 rfl (lv_at hl 3 rfl) ?_
              rw [hQ]
              exact W.iret (v := v2_1) hx hb hr (fun t ht hW => ⟨⟨v2_1, (), rfl, by refine ⟨?_, by omega, by omega⟩; exact (jGa_x (by omega) (by omega) (by rw [← hqz_4, ← hr_6p]; omega) (jCe.no hr_9_0 (by omega)) rfl).trans hi_1_5, hh_8.rt (M1 := []) [] rfl ht⟩, by rw [ht]; try exact hh_8.1.1, fun q h9 hq => by rw [ht]; try exact hh_8.1.2.1 q h9 hq⟩) hh_8.1.2.2 dX1_sentenceBegin_58
          · skip
            have c_7' : r_6.toInt ≠ 0 := jb_eq_n (rfl) ((by decide)) c_7
            obtain ⟨z_12, ez_12⟩ : ∃ y : Int32, y = v2_1 + 1 := ⟨_, rfl⟩
            refine lv_iinc (v := z_12) (lv' := [(2, .int z_12), (0, .ref r0), (1, .int a1), (3, .int v3_1)]) hx hb dX1_sentenceBegin_32 hl (k := 2) rfl (by rw [ez_12]; rfl) (by decide) rfl (fun ls hl => ?_)
            have hz_12 : z_12.toInt = v2_1.toInt + 1 := by rw [ez_12]; exact jb_iadd2 (rfl) (by decide) (by omega)
            refine lv_goto (tgt := 62) hx hb dX1_sentenceBegin_35 (by decide) ?_
            obtain ⟨z_13, ez_13⟩ : ∃ y : Int32, y = v3_1 + 1 := ⟨_, rfl⟩
            refine lv_iinc (v := z_13) (lv' := [(3, .int z_13), (2, .int z_12), (0, .ref r0), (1, .int a1)]) hx hb dX1_sentenceBegin_62 hl (k := 3) rfl (by rw [ez_13]; rfl) (by decide) rfl (fun ls hl => ?_)
            have hz_13 : z_13.toInt = v3_1.toInt + 1 := by rw [ez_13]; exact jb_iadd2 (rfl) (by decide) (by omega)
            refine lv_goto (tgt := 4) hx hb dX1_sentenceBegin_65 (by decide) ?_
            exact L4 z_12 z_13 (kf - 1) _ _ hh_5 (by refine ⟨by omega, by omega, by omega, by omega, by omega, ?_⟩; first | exact (jGa_b (by omega) (by omega) (by rw [← hqz_4, ← hr_6p]; omega) (by omega)).trans hi_1_5 | exact (jGa_c (by omega) (by omega) (by rw [← hqz_4, ← hr_6p]; omega) (jCe.yes (zz_none) (by omega)).1 (by omega) (jCe.yes (zz_none) (by omega)).2).trans hi_1_5) (by omega) _ (lv_sub hl [2, 3, 1, 0] rfl)
  exact L4 (pl.toInt - (a1 : Int32).toInt : Int).toNat.succ a1 0 ((pl.toInt - a1.toInt).toNat + 1) _ _ hh (by refine ⟨by omega, by omega, by omega, by omega, by omega, rfl⟩) (by omega) _ (lv_sub hl [2, 3, 1, 0] rfl)
set_option maxHeartbeats 4000000 in
set_option maxRecDepth 20000 in
theorem uX1_sentenceEndP (l : Launch) (dC : Nat → ClassId) (dI : Nat → Nat → Nat) (ca : Nat → ClassId) (base : Nat) (B : jF) (hB : jBok B) (hAp : jAp (dC, dI)) (hB3 : ∀ n G a H, B 3 n G a H ↔ jOb (dC, dI) 3 17 (F3 n G) a H) (hB101 : ∀ n G a H, B 101 n G a H ↔ jAr (dC, dI) (ca 1) (fun j z => True) n a H) (hB173 : ∀ n G a H, B 173 n G a H ↔ jAr (dC, dI) (ca 1) (fun j z => True) n a H) (G0 : jT) (H0 : Heap) (r0 : Nat) (a1 : Int32) (n0 : Nat) (pl : Int32) (tx_ : Nat) (ft : Nat → Int32) : Met l yX1_sentenceEnd (jw yX1_sentenceEnd cX1_sentenceEnd 5 (some .int)) ({ frames := 2, cells := 0, slots := 0, locals := 46 }) (va_Pc [.ref r0, .int a1] (fun U => U.heap = H0 ∧ jX B base G0 [] H0 ∧ jG dC dI ca base U ∧ G0 r0 = some (3, n0) ∧ G0 tx_ = some (173, 1500) ∧ jP (dC, dI) G0 H0 [(r0, 3, 3, .int pl), (r0, 3, 2, .ref tx_)] ∧ jMc (dC, dI) G0 H0 [(tx_, 173, 1500, ca 1, ft)] ∧ 0 ≤ a1.toInt ∧ a1.toInt < pl.toInt ∧ pl.toInt ≤ 1500)) (va_Qi (S := Unit) (fun r u => (r.toInt = jSen ft pl.toInt a1.toInt ∧ (r.toInt = -1 ∨ (a1.toInt < r.toInt ∧ r.toInt ≤ pl.toInt)))) (fun u t => jRt (dC, dI) B base G0 EX1_sentenceEndP H0 [] t.heap) (jA base)) 0 0 (jA base) := by
  refine Met.ofW (cc := cX1_sentenceEnd) (maxL := 5) (ret := (some .int)) (by decide) rfl ?_
  intro p e s m args below meth c s₁ Bd hml hv
  obtain ⟨rfl, hH0, hX, hG, hg_r0, hg_tx_, hP0, hM0, hp0, hp1, hp2⟩ := hv
  have hK := hG.1
  have hx := Bd.exec
  have hb := Bd.bytes
  have hr := Bd.returns
  have hts := atoms_spec (ws := (jw yX1_sentenceEnd cX1_sentenceEnd 5 (some .int))) Bd.pre
  have htw : ∀ w ∈ jWl, w.before _ s = true := fun w h => hts w (List.mem_cons_of_mem _ h)
  have hown : s.vm.findClass RX1 = some m.cls := findClass_of_methodNamed Bd.named
  have hlocks := Bd.notSynchronized
  obtain ⟨Q, hQ⟩ : ∃ Q, Q = MQ below (va_Qi (S := Unit) (fun r u => (r.toInt = jSen ft pl.toInt a1.toInt ∧ (r.toInt = -1 ∨ (a1.toInt < r.toInt ∧ r.toInt ≤ pl.toInt)))) (fun u t => jRt (dC, dI) B base G0 EX1_sentenceEndP H0 [] t.heap) (jA base)) ([.ref r0, .int a1] : List Value).toArray s 0 0 (jA base) := ⟨_, rfl⟩
  rw [← hQ]
  have hl := lv_entry ([.ref r0, .int a1]) (n := 5) (Nat.le_of_ble_eq_true rfl)
  rw [lg_entry_eq]
  generalize (lg_sl ([.ref r0, .int a1]) ++ List.replicate (5 - (lg_sl ([.ref r0, .int a1])).length) Slot.unset).toArray = ls at hl ⊢
  have hl : lv_has ls 5 [(0, .ref r0), (1, .int a1)] := hl
  generalize hR : (headSpec (jw yX1_sentenceEnd cX1_sentenceEnd 5 (some .int)) ({ frames := 2, cells := 0, slots := 0, locals := 46 })).room = R
  subst hH0
  have hh : jSt (dC, dI) B base G0 G0 EX1_sentenceEndP s.heap 0 0 [(r0, 3, 3, .int pl), (r0, 3, 2, .ref tx_)] [(tx_, 173, 1500, ca 1, ft)] [] s.heap [] := jSt.start hX hP0 hM0 jIs.nil
  clear hX hP0
  have hkm1 : ((-1) : Int32).toInt = (-1) := by decide
  have hk0 : (0 : Int32).toInt = 0 := by decide
  have hk1 : (1 : Int32).toInt = 1 := by decide
  have hk46 : (46 : Int32).toInt = 46 := by decide
  have hly_3_2 := htw (u_lay RX1 TX1 2) (jWc_wsX10 _ (u_in_lay (by decide)))
  have hly_3_3 := htw (u_lay RX1 TX1 3) (jWc_wsX10 _ (u_in_lay (by decide)))
  have hlk_42 := (htw (.fieldLink RX1 42 "ProofServer$Document" "length" "I") (jWr_29 _ (List.mem_of_getElem? (i := 5) rfl)))
  have hlk_15 := (htw (.fieldLink RX1 15 "ProofServer$Document" "text" "[I") (jWr_10 _ (List.mem_of_getElem? (i := 6) rfl)))
  have hrg_a1 := jb_rng a1
  refine lv_iload_n hx hb dX1_sentenceEnd_0 rfl (lv_at hl 1 rfl) ?_
  refine lv_istore_n (lv' := [(2, .int a1), (0, .ref r0), (1, .int a1)]) hx hb dX1_sentenceEnd_1 rfl hl (by decide) rfl (fun ls hl => ?_)
  refine lv_iconst (v := 0) hx hb dX1_sentenceEnd_2 (by decide) ?_
  refine lv_istore_n (lv' := [(3, .int 0), (2, .int a1), (0, .ref r0), (1, .int a1)]) hx hb dX1_sentenceEnd_3 rfl hl (by decide) rfl (fun ls hl => ?_)
  have L4 : ∀ (N : Nat) (v2_1 : Int32) (v3_1 : Int32) (kf : Nat) (H_1 : Heap) (locs_1 : List Loc), jSt (dC, dI) B base G0 G0 EX1_sentenceEndP s.heap 0 0 [(r0, 3, 3, .int pl), (r0, 3, 2, .ref tx_)] [(tx_, 173, 1500, ca 1, ft)] [] H_1 locs_1 → (a1.toInt ≤ v2_1.toInt ∧ v2_1.toInt ≤ pl.toInt ∧ 0 ≤ v3_1.toInt ∧ v3_1.toInt ≤ v2_1.toInt ∧ pl.toInt - v2_1.toInt < kf ∧ jSx ft pl.toInt kf v2_1.toInt = jSen ft pl.toInt a1.toInt) → (pl.toInt - v2_1.toInt : Int) < N → ∀ ls : Array Slot, lv_has ls 5 [(0, .ref r0), (1, .int a1), (2, .int v2_1), (3, .int v3_1)] → W p l e R s m ([.ref r0, .int a1] : List Value).toArray below meth c H_1 locs_1 0 0 Q (F0 m 4 ls []) := by
    intro N
    induction N with
    | zero => intro v2_1 v3_1 kf H_1 locs_1 hh_1  hi_1 hm; exact absurd hm (by omega)
    | succ N L4 =>
      intro v2_1 v3_1 kf H_1 locs_1 hh_1  hi_1 hm_1 ls hl
      obtain ⟨hi_1_0, hi_1_1, hi_1_2, hi_1_3, hi_1_4, hi_1_5⟩ := hi_1
      refine lv_iload_n hx hb dX1_sentenceEnd_4 rfl (lv_at hl 3 rfl) ?_
      refine lv_aload_n hx hb dX1_sentenceEnd_5 rfl (lv_at hl 0 rfl) ?_
      refine j7_read hx hb hown hK (C := RX1) (T := TX1) (N := 17) rfl hly_3_3 hlk_42 (hh_1.at 0 rfl) dX1_sentenceEnd_6 ?_
      refine lv_icmp_gt (tgt := 123) hx hb dX1_sentenceEnd_9 (by decide) (fun c_2 => ?_) (fun c_2 => ?_)
      · skip
        have c_2' : v3_1.toInt > pl.toInt := jb_gt (rfl) (rfl) c_2
        exact absurd c_2' (by omega)
      · skip
        have c_2' : v3_1.toInt ≤ pl.toInt := jb_gt_n (rfl) (rfl) c_2
        refine lv_iload_n hx hb dX1_sentenceEnd_12 rfl (lv_at hl 2 rfl) ?_
        refine lv_aload_n hx hb dX1_sentenceEnd_13 rfl (lv_at hl 0 rfl) ?_
        refine j7_read hx hb hown hK (C := RX1) (T := TX1) (N := 17) rfl hly_3_3 hlk_42 (hh_1.at 0 rfl) dX1_sentenceEnd_14 ?_
        refine lv_icmp_ge (tgt := 123) hx hb dX1_sentenceEnd_17 (by decide) (fun c_3 => ?_) (fun c_3 => ?_)
        · skip
          have c_3' : v2_1.toInt ≥ pl.toInt := jb_ge (rfl) (rfl) c_3
          refine lv_iconst (v := (-1)) hx hb dX1_sentenceEnd_123 (by decide) ?_
          rw [hQ]
          exact W.iret (v := (-1)) hx hb hr (fun t ht hW => ⟨⟨(-1), (), rfl, by refine ⟨?_, by omega⟩; exact (jSx_o (by omega) (by omega) hkm1).trans hi_1_5, hh_1.rt (M1 := []) [] rfl ht⟩, by rw [ht]; try exact hh_1.1.1, fun q h9 hq => by rw [ht]; try exact hh_1.1.2.1 q h9 hq⟩) hh_1.1.2.2 dX1_sentenceEnd_124
        · skip
          have c_3' : v2_1.toInt < pl.toInt := jb_ge_n (rfl) (rfl) c_3
          refine lv_aload_n hx hb dX1_sentenceEnd_20 rfl (lv_at hl 0 rfl) ?_
          refine j7_read hx hb hown hK (C := RX1) (T := TX1) (N := 17) rfl hly_3_2 hlk_15 (hh_1.at 1 rfl) dX1_sentenceEnd_21 ?_
          refine lv_iload_n hx hb dX1_sentenceEnd_24 rfl (lv_at hl 2 rfl) ?_
          refine lv_aload_n hx hb dX1_sentenceEnd_25 rfl (lv_at hl 0 rfl) ?_
          refine j7_read hx hb hown hK (C := RX1) (T := TX1) (N := 17) rfl hly_3_3 hlk_42 (hh_1.at 0 rfl) dX1_sentenceEnd_26 ?_
          refine va_calli (A0 := jA base) (H0 := s.heap) (va_runSN (As := [.ref tx_, .int v2_1, .int pl]) (rest := []) ⟨hx, hb, hml, hown, hts⟩ (uX11_opensCommentPt9 l dC dI ca base B hB hAp hB173 G0 H_1 tx_ v2_1 pl 1500 ft) ⟨va_cnB 3 hts (jgW (jWr_36 _ (List.mem_of_getElem? (i := 14) rfl))) rfl rfl rfl (hG.2.2.1 RX1 94 yX11_opensComment "ProofServer" (List.mem_of_getElem? (i := 1130) (by decide +kernel))) (htw (.initialized RX11) (jWr_1 _ (List.mem_of_getElem? (i := 2) rfl))) (by decide +kernel) ⟨by rw [← hR]; exact Nat.le_of_ble_eq_true rfl, by rw [← hR]; exact Nat.le_of_ble_eq_true rfl⟩, htw (.static yX11_opensComment) (jWr_36 _ (List.mem_of_getElem? (i := 13) rfl)), trivial⟩ ⟨fun a U g mk q => by obtain ⟨q0, q1, q2, qK, q10, q11, q12, q13⟩ := q; exact ⟨q0, q1, q2, jG.calling g mk a qK, q10, q11, q12, q13⟩, fun U hU hW => ⟨rfl, hU, hh_1.2.1, hG.step hW hU hh_1.1, hg_tx_, jP.nil, (hh_1.2.2.2.2.2.2.2.1.sub (L1 := [(tx_, 173, 1500, ca 1, ft)]) [0] rfl), by first | omega | (refine ⟨?_, ?_, ?_, ?_⟩ <;> (first | omega | rfl | assumption | decide | exact Or.inl rfl | exact Or.inr rfl | (simp only; omega)))⟩⟩ rfl rfl hl.1 rfl (lv_room (Nat.le_of_ble_eq_true rfl)) dX1_sentenceEnd_29 ⟨Nat.zero_le _, Nat.zero_le _⟩) hh_1.1 (fun q _ h => h) (fun q h => h) (fun r_5 u_4 t_4 H_4 locs_4 ht_4 hvm_4 hr_5 hb_4 hz_4 hk_4 hS_4 => ?_)
          rw [ht_4] at hb_4
          obtain ⟨hb_41, hb_42, hb_43, hb_44, hb_45⟩ := hb_4
          have hh_4 : jSt (dC, dI) B base G0 G0 EX1_sentenceEndP s.heap 0 0 [(r0, 3, 3, .int pl), (r0, 3, 2, .ref tx_)] [(tx_, 173, 1500, ca 1, ft)] [] H_4 locs_4 := ((hh_1.call hb_41 hb_42 hb_43 hb_44 hS_4 rfl (L1 := [(r0, 3, 3, .int pl), (r0, 3, 2, .ref tx_)]) [0, 1] rfl rfl (M1 := [(tx_, 173, 1500, ca 1, ft)]) [0] rfl rfl (I1 := []) [] rfl rfl).more hb_45)
          clear hh_1 ht_4 hvm_4 hz_4 hk_4 hS_4 hb_41 hb_42 hb_43 hb_44 hb_45
          obtain ⟨hr_5b, hr_5p⟩ := hr_5
          obtain ⟨hr_5p_0, hr_5p_1⟩ := hr_5p
          have hr_5' := jb_01 hr_5b
          refine lv_if_eq (tgt := 54) hx hb dX1_sentenceEnd_32 (by decide) (fun c_6 => ?_) (fun c_6 => ?_)
          · skip
            have c_6' : r_5.toInt = 0 := jb_eq (rfl) ((by decide)) c_6
            first | (have hr_5p_1q := hr_5p_1.resolve_left (by omega); clear hr_5p_1) | (have hr_5p_1q := hr_5p_1.resolve_right (by omega); clear hr_5p_1) | try clear hr_5p_1
            refine lv_aload_n hx hb dX1_sentenceEnd_54 rfl (lv_at hl 0 rfl) ?_
            refine j7_read hx hb hown hK (C := RX1) (T := TX1) (N := 17) rfl hly_3_2 hlk_15 (hh_4.at 1 rfl) dX1_sentenceEnd_55 ?_
            refine lv_iload_n hx hb dX1_sentenceEnd_58 rfl (lv_at hl 2 rfl) ?_
            refine j7_ialdM hx hb hK hh_4 hB173 1 rfl (by decide) hg_tx_ (x := v2_1.toInt) (rfl) (by omega) (j := 0) rfl dX1_sentenceEnd_59 (fun z_7 ez_7 (hz_7 : True) => ?_)
            have hqz_7 : z_7.toInt = jSo ft (v2_1.toInt) := by unfold jSo; rw [ez_7]
            refine lv_bipush (v := 46) hx hb dX1_sentenceEnd_60 (by decide) ?_
            refine lv_icmp_ne (tgt := 69) hx hb dX1_sentenceEnd_62 (by decide) (fun c_8 => ?_) (fun c_8 => ?_)
            · skip
              have c_8' : z_7.toInt ≠ 46 := jb_ne (rfl) ((by decide)) c_8
              refine lv_iconst (v := 0) hx hb dX1_sentenceEnd_69 (by decide) ?_
              refine lv_istore (lv' := [(4, .int 0), (0, .ref r0), (1, .int a1), (2, .int v2_1), (3, .int v3_1)]) hx hb dX1_sentenceEnd_70 hl (by decide) rfl (fun ls hl => ?_)
              obtain ⟨z_9, ez_9⟩ : ∃ y : Int32, y = v2_1 + 1 := ⟨_, rfl⟩
              refine lv_iinc (v := z_9) (lv' := [(2, .int z_9), (4, .int 0), (0, .ref r0), (1, .int a1), (3, .int v3_1)]) hx hb dX1_sentenceEnd_72 hl (k := 3) rfl (by rw [ez_9]; rfl) (by decide) rfl (fun ls hl => ?_)
              have hz_9 : z_9.toInt = v2_1.toInt + 1 := by rw [ez_9]; exact jb_iadd2 (rfl) (by decide) (by omega)
              refine lv_iload hx hb dX1_sentenceEnd_75 (lv_at hl 1 rfl) ?_
              refine lv_if_eq (tgt := 117) hx hb dX1_sentenceEnd_77 (by decide) (fun c_10 => ?_) (fun c_10 => ?_)
              · skip
                obtain ⟨z_11, ez_11⟩ : ∃ y : Int32, y = v3_1 + 1 := ⟨_, rfl⟩
                refine lv_iinc (v := z_11) (lv' := [(3, .int z_11), (2, .int z_9), (4, .int 0), (0, .ref r0), (1, .int a1)]) hx hb dX1_sentenceEnd_117 hl (k := 4) rfl (by rw [ez_11]; rfl) (by decide) rfl (fun ls hl => ?_)
                have hz_11 : z_11.toInt = v3_1.toInt + 1 := by rw [ez_11]; exact jb_iadd2 (rfl) (by decide) (by omega)
                refine lv_goto (tgt := 4) hx hb dX1_sentenceEnd_120 (by decide) ?_
                exact L4 z_9 z_11 (kf - 1) _ _ hh_4 (by refine ⟨by omega, by omega, by omega, by omega, by omega, ?_⟩; first | exact (jSx_c (by omega) (by omega) (by omega) (by omega) (jCe.op (zz_none) (by omega))).trans hi_1_5 | exact (jSx_n (by omega) (by omega) (by omega) (jDt_0 (by first | exact Or.inl (by rw [← hqz_7]; omega) | exact Or.inr ⟨by omega, (by rw [← (zz_none), ← (zz_none)]; omega), by omega⟩)) (by omega)).trans hi_1_5) (by omega) _ (lv_sub hl [3, 4, 1, 0] rfl)
              · skip
                exact absurd c_10 (by decide)
            · skip
              have c_8' : z_7.toInt = 46 := jb_ne_n (rfl) ((by decide)) c_8
              refine lv_iconst (v := 1) hx hb dX1_sentenceEnd_65 (by decide) ?_
              refine lv_goto (tgt := 70) hx hb dX1_sentenceEnd_66 (by decide) ?_
              refine lv_istore (lv' := [(4, .int 1), (0, .ref r0), (1, .int a1), (2, .int v2_1), (3, .int v3_1)]) hx hb dX1_sentenceEnd_70 hl (by decide) rfl (fun ls hl => ?_)
              obtain ⟨z_12, ez_12⟩ : ∃ y : Int32, y = v2_1 + 1 := ⟨_, rfl⟩
              refine lv_iinc (v := z_12) (lv' := [(2, .int z_12), (4, .int 1), (0, .ref r0), (1, .int a1), (3, .int v3_1)]) hx hb dX1_sentenceEnd_72 hl (k := 3) rfl (by rw [ez_12]; rfl) (by decide) rfl (fun ls hl => ?_)
              have hz_12 : z_12.toInt = v2_1.toInt + 1 := by rw [ez_12]; exact jb_iadd2 (rfl) (by decide) (by omega)
              refine lv_iload hx hb dX1_sentenceEnd_75 (lv_at hl 1 rfl) ?_
              refine lv_if_eq (tgt := 117) hx hb dX1_sentenceEnd_77 (by decide) (fun c_13 => ?_) (fun c_13 => ?_)
              · skip
                exact absurd c_13 (by decide)
              · skip
                refine lv_iload_n hx hb dX1_sentenceEnd_80 rfl (lv_at hl 0 rfl) ?_
                refine lv_aload_n hx hb dX1_sentenceEnd_81 rfl (lv_at hl 2 rfl) ?_
                refine j7_read hx hb hown hK (C := RX1) (T := TX1) (N := 17) rfl hly_3_3 hlk_42 (hh_4.at 0 rfl) dX1_sentenceEnd_82 ?_
                refine lv_icmp_eq (tgt := 115) hx hb dX1_sentenceEnd_85 (by decide) (fun c_14 => ?_) (fun c_14 => ?_)
                · skip
                  have c_14' : z_12.toInt = pl.toInt := jb_eq (rfl) (rfl) c_14
                  refine lv_iload_n hx hb dX1_sentenceEnd_115 rfl (lv_at hl 0 rfl) ?_
                  rw [hQ]
                  exact W.iret (v := z_12) hx hb hr (fun t ht hW => ⟨⟨z_12, (), rfl, by refine ⟨?_, by omega⟩; exact (jSx_d (by omega) (by omega) (by omega) (jDt_1 (by rw [← hqz_7]; omega) (by first | exact Or.inl (by omega) | exact Or.inr (Or.inl (by rw [← (zz_none), ← (zz_none)]; omega)) | exact Or.inr (Or.inr (by rw [ho109]; omega)))) (by omega)).trans hi_1_5, hh_4.rt (M1 := []) [] rfl ht⟩, by rw [ht]; try exact hh_4.1.1, fun q h9 hq => by rw [ht]; try exact hh_4.1.2.1 q h9 hq⟩) hh_4.1.2.2 dX1_sentenceEnd_116
                · skip
                  have c_14' : z_12.toInt ≠ pl.toInt := jb_eq_n (rfl) (rfl) c_14
                  refine lv_aload_n hx hb dX1_sentenceEnd_88 rfl (lv_at hl 2 rfl) ?_
                  refine j7_read hx hb hown hK (C := RX1) (T := TX1) (N := 17) rfl hly_3_2 hlk_15 (hh_4.at 1 rfl) dX1_sentenceEnd_89 ?_
                  refine lv_iload_n hx hb dX1_sentenceEnd_92 rfl (lv_at hl 0 rfl) ?_
                  refine j7_ialdM hx hb hK hh_4 hB173 1 rfl (by decide) hg_tx_ (x := z_12.toInt) (rfl) (by omega) (j := 0) rfl dX1_sentenceEnd_93 (fun z_15 ez_15 (hz_15 : True) => ?_)
                  have hqz_15 : z_15.toInt = jSo ft ((v2_1.toInt + 1)) := by unfold jSo; rw [ez_15, show z_12.toInt = (v2_1.toInt + 1) by omega]
                  refine va_calli (A0 := jA base) (H0 := s.heap) (va_runSN (As := [.int z_15]) (rest := []) ⟨hx, hb, hml, hown, hts⟩ (uX11_isBlankP l dC dI ca base B hB hAp G0 H_4 z_15) ⟨va_cnB 1 hts (jgW (jWr_20 _ (List.mem_of_getElem? (i := 0) rfl))) rfl rfl rfl (hG.2.2.1 RX1 87 yX11_isBlank "ProofServer" (List.mem_of_getElem? (i := 1119) (by decide +kernel))) (htw (.initialized RX11) (jWr_1 _ (List.mem_of_getElem? (i := 2) rfl))) (by decide +kernel) ⟨by rw [← hR]; exact Nat.le_of_ble_eq_true rfl, by rw [← hR]; exact Nat.le_of_ble_eq_true rfl⟩, htw (.static yX11_isBlank) (jWr_19 _ (List.mem_of_getElem? (i := 23) rfl)), trivial⟩ ⟨fun a U g mk q => by obtain ⟨q0, q1, q2, qK, q10, q11⟩ := q; exact ⟨q0, q1, q2, jG.calling g mk a qK, q10, q11⟩, fun U hU hW => ⟨rfl, hU, hh_4.2.1, hG.step hW hU hh_4.1, jP.nil, trivial⟩⟩ rfl rfl hl.1 rfl (lv_room (Nat.le_of_ble_eq_true rfl)) dX1_sentenceEnd_94 ⟨Nat.zero_le _, Nat.zero_le _⟩) hh_4.1 (fun q _ h => h) (fun q h => h) (fun r_17 u_16 t_16 H_16 locs_16 ht_16 hvm_16 hr_17 hb_16 hz_16 hk_16 hS_16 => ?_)
                  rw [ht_16] at hb_16
                  obtain ⟨hb_161, hb_162, hb_163, hb_164, hb_165⟩ := hb_16
                  have hh_16 : jSt (dC, dI) B base G0 G0 EX1_sentenceEndP s.heap 0 0 [(r0, 3, 3, .int pl), (r0, 3, 2, .ref tx_)] [(tx_, 173, 1500, ca 1, ft)] [] H_16 locs_16 := ((hh_4.call hb_161 hb_162 hb_163 hb_164 hS_16 rfl (L1 := [(r0, 3, 3, .int pl), (r0, 3, 2, .ref tx_)]) [0, 1] rfl rfl (M1 := [(tx_, 173, 1500, ca 1, ft)]) [0] rfl rfl (I1 := []) [] rfl rfl).more hb_165)
                  clear hh_4 ht_16 hvm_16 hz_16 hk_16 hS_16 hb_161 hb_162 hb_163 hb_164 hb_165
                  obtain ⟨hr_17b, hr_17p⟩ := hr_17
                  have hr_17' := jb_01 hr_17b
                  refine lv_if_ne (tgt := 115) hx hb dX1_sentenceEnd_97 (by decide) (fun c_18 => ?_) (fun c_18 => ?_)
                  · skip
                    have c_18' : r_17.toInt ≠ 0 := jb_ne (rfl) ((by decide)) c_18
                    refine lv_iload_n hx hb dX1_sentenceEnd_115 rfl (lv_at hl 0 rfl) ?_
                    rw [hQ]
                    exact W.iret (v := z_12) hx hb hr (fun t ht hW => ⟨⟨z_12, (), rfl, by refine ⟨?_, by omega⟩; exact (jSx_d (by omega) (by omega) (by omega) (jDt_1 (by rw [← hqz_7]; omega) (by first | exact Or.inl (by omega) | exact Or.inr (Or.inl (by rw [← hqz_15, ← hr_17p]; omega)) | exact Or.inr (Or.inr (by rw [ho109]; omega)))) (by omega)).trans hi_1_5, hh_16.rt (M1 := []) [] rfl ht⟩, by rw [ht]; try exact hh_16.1.1, fun q h9 hq => by rw [ht]; try exact hh_16.1.2.1 q h9 hq⟩) hh_16.1.2.2 dX1_sentenceEnd_116
                  · skip
                    have c_18' : r_17.toInt = 0 := jb_ne_n (rfl) ((by decide)) c_18
                    refine lv_aload_n hx hb dX1_sentenceEnd_100 rfl (lv_at hl 2 rfl) ?_
                    refine j7_read hx hb hown hK (C := RX1) (T := TX1) (N := 17) rfl hly_3_2 hlk_15 (hh_16.at 1 rfl) dX1_sentenceEnd_101 ?_
                    refine lv_iload_n hx hb dX1_sentenceEnd_104 rfl (lv_at hl 0 rfl) ?_
                    refine lv_aload_n hx hb dX1_sentenceEnd_105 rfl (lv_at hl 2 rfl) ?_
                    refine j7_read hx hb hown hK (C := RX1) (T := TX1) (N := 17) rfl hly_3_3 hlk_42 (hh_16.at 0 rfl) dX1_sentenceEnd_106 ?_
                    refine va_calli (A0 := jA base) (H0 := s.heap) (va_runSN (As := [.ref tx_, .int z_12, .int pl]) (rest := []) ⟨hx, hb, hml, hown, hts⟩ (uX11_opensCommentPt9 l dC dI ca base B hB hAp hB173 G0 H_16 tx_ z_12 pl 1500 ft) ⟨va_cnB 3 hts (jgW (jWr_36 _ (List.mem_of_getElem? (i := 14) rfl))) rfl rfl rfl (hG.2.2.1 RX1 94 yX11_opensComment "ProofServer" (List.mem_of_getElem? (i := 1130) (by decide +kernel))) (htw (.initialized RX11) (jWr_1 _ (List.mem_of_getElem? (i := 2) rfl))) (by decide +kernel) ⟨by rw [← hR]; exact Nat.le_of_ble_eq_true rfl, by rw [← hR]; exact Nat.le_of_ble_eq_true rfl⟩, htw (.static yX11_opensComment) (jWr_36 _ (List.mem_of_getElem? (i := 13) rfl)), trivial⟩ ⟨fun a U g mk q => by obtain ⟨q0, q1, q2, qK, q10, q11, q12, q13⟩ := q; exact ⟨q0, q1, q2, jG.calling g mk a qK, q10, q11, q12, q13⟩, fun U hU hW => ⟨rfl, hU, hh_16.2.1, hG.step hW hU hh_16.1, hg_tx_, jP.nil, (hh_16.2.2.2.2.2.2.2.1.sub (L1 := [(tx_, 173, 1500, ca 1, ft)]) [0] rfl), by first | omega | (refine ⟨?_, ?_, ?_, ?_⟩ <;> (first | omega | rfl | assumption | decide | exact Or.inl rfl | exact Or.inr rfl | (simp only; omega)))⟩⟩ rfl rfl hl.1 rfl (lv_room (Nat.le_of_ble_eq_true rfl)) dX1_sentenceEnd_109 ⟨Nat.zero_le _, Nat.zero_le _⟩) hh_16.1 (fun q _ h => h) (fun q h => h) (fun r_20 u_19 t_19 H_19 locs_19 ht_19 hvm_19 hr_20 hb_19 hz_19 hk_19 hS_19 => ?_)
                    rw [ht_19] at hb_19
                    obtain ⟨hb_191, hb_192, hb_193, hb_194, hb_195⟩ := hb_19
                    have hh_19 : jSt (dC, dI) B base G0 G0 EX1_sentenceEndP s.heap 0 0 [(r0, 3, 3, .int pl), (r0, 3, 2, .ref tx_)] [(tx_, 173, 1500, ca 1, ft)] [] H_19 locs_19 := ((hh_16.call hb_191 hb_192 hb_193 hb_194 hS_19 rfl (L1 := [(r0, 3, 3, .int pl), (r0, 3, 2, .ref tx_)]) [0, 1] rfl rfl (M1 := [(tx_, 173, 1500, ca 1, ft)]) [0] rfl rfl (I1 := []) [] rfl rfl).more hb_195)
                    clear hh_16 ht_19 hvm_19 hz_19 hk_19 hS_19 hb_191 hb_192 hb_193 hb_194 hb_195
                    obtain ⟨hr_20b, hr_20p⟩ := hr_20
                    obtain ⟨hr_20p_0, hr_20p_1⟩ := hr_20p
                    have ho109 : jOpI ft (v2_1.toInt + 1) pl.toInt = r_20.toInt := by rw [hr_20p_0]; congr 1; omega
                    have hr_20' := jb_01 hr_20b
                    refine lv_if_eq (tgt := 117) hx hb dX1_sentenceEnd_112 (by decide) (fun c_21 => ?_) (fun c_21 => ?_)
                    · skip
                      have c_21' : r_20.toInt = 0 := jb_eq (rfl) ((by decide)) c_21
                      first | (have hr_20p_1q := hr_20p_1.resolve_left (by omega); clear hr_20p_1) | (have hr_20p_1q := hr_20p_1.resolve_right (by omega); clear hr_20p_1) | try clear hr_20p_1
                      obtain ⟨z_22, ez_22⟩ : ∃ y : Int32, y = v3_1 + 1 := ⟨_, rfl⟩
                      refine lv_iinc (v := z_22) (lv' := [(3, .int z_22), (2, .int z_12), (4, .int 1), (0, .ref r0), (1, .int a1)]) hx hb dX1_sentenceEnd_117 hl (k := 4) rfl (by rw [ez_22]; rfl) (by decide) rfl (fun ls hl => ?_)
                      have hz_22 : z_22.toInt = v3_1.toInt + 1 := by rw [ez_22]; exact jb_iadd2 (rfl) (by decide) (by omega)
                      refine lv_goto (tgt := 4) hx hb dX1_sentenceEnd_120 (by decide) ?_
                      exact L4 z_12 z_22 (kf - 1) _ _ hh_19 (by refine ⟨by omega, by omega, by omega, by omega, by omega, ?_⟩; first | exact (jSx_c (by omega) (by omega) (by omega) (by omega) (jCe.op (zz_none) (by omega))).trans hi_1_5 | exact (jSx_n (by omega) (by omega) (by omega) (jDt_0 (by first | exact Or.inl (by rw [← hqz_7]; omega) | exact Or.inr ⟨by omega, (by rw [← hqz_15, ← hr_17p]; omega), by omega⟩)) (by omega)).trans hi_1_5) (by omega) _ (lv_sub hl [3, 4, 1, 0] rfl)
                    · skip
                      have c_21' : r_20.toInt ≠ 0 := jb_eq_n (rfl) ((by decide)) c_21
                      first | (have hr_20p_1q := hr_20p_1.resolve_left (by omega); clear hr_20p_1) | (have hr_20p_1q := hr_20p_1.resolve_right (by omega); clear hr_20p_1) | try clear hr_20p_1
                      refine lv_iload_n hx hb dX1_sentenceEnd_115 rfl (lv_at hl 0 rfl) ?_
                      rw [hQ]
                      exact W.iret (v := z_12) hx hb hr (fun t ht hW => ⟨⟨z_12, (), rfl, by refine ⟨?_, by omega⟩; exact (jSx_d (by omega) (by omega) (by omega) (jDt_1 (by rw [← hqz_7]; omega) (by first | exact Or.inl (by omega) | exact Or.inr (Or.inl (by rw [← hqz_15, ← hr_17p]; omega)) | exact Or.inr (Or.inr (by rw [ho109]; omega)))) (by omega)).trans hi_1_5, hh_19.rt (M1 := []) [] rfl ht⟩, by rw [ht]; try exact hh_19.1.1, fun q h9 hq => by rw [ht]; try exact hh_19.1.2.1 q h9 hq⟩) hh_19.1.2.2 dX1_sentenceEnd_116
          · skip
            have c_6' : r_5.toInt ≠ 0 := jb_eq_n (rfl) ((by decide)) c_6
            first | (have hr_5p_1q := hr_5p_1.resolve_left (by omega); clear hr_5p_1) | (have hr_5p_1q := hr_5p_1.resolve_right (by omega); clear hr_5p_1) | try clear hr_5p_1
            refine lv_aload_n hx hb dX1_sentenceEnd_35 rfl (lv_at hl 0 rfl) ?_
            refine j7_read hx hb hown hK (C := RX1) (T := TX1) (N := 17) rfl hly_3_2 hlk_15 (hh_4.at 1 rfl) dX1_sentenceEnd_36 ?_
            refine lv_iload_n hx hb dX1_sentenceEnd_39 rfl (lv_at hl 2 rfl) ?_
            refine lv_aload_n hx hb dX1_sentenceEnd_40 rfl (lv_at hl 0 rfl) ?_
            refine j7_read hx hb hown hK (C := RX1) (T := TX1) (N := 17) rfl hly_3_3 hlk_42 (hh_4.at 0 rfl) dX1_sentenceEnd_41 ?_
            refine va_calli (A0 := jA base) (H0 := s.heap) (va_runSN (As := [.ref tx_, .int v2_1, .int pl]) (rest := []) ⟨hx, hb, hml, hown, hts⟩ (uX11_commentEndPt9 l dC dI ca base B hB hAp hB101 hB173 G0 H_4 tx_ v2_1 pl 1500 ft) ⟨va_cnB 3 hts (jgW (jWr_36 _ (List.mem_of_getElem? (i := 11) rfl))) rfl rfl rfl (hG.2.2.1 RX1 91 yX11_commentEnd "ProofServer" (List.mem_of_getElem? (i := 1120) (by decide +kernel))) (htw (.initialized RX11) (jWr_1 _ (List.mem_of_getElem? (i := 2) rfl))) (by decide +kernel) ⟨by rw [← hR]; exact Nat.le_of_ble_eq_true rfl, by rw [← hR]; exact Nat.le_of_ble_eq_true rfl⟩, htw (.static yX11_commentEnd) (jWr_36 _ (List.mem_of_getElem? (i := 10) rfl)), trivial⟩ ⟨fun a U g mk q => by obtain ⟨q0, q1, q2, qK, q10, q11, q12, q13⟩ := q; exact ⟨q0, q1, q2, jG.calling g mk a qK, q10, q11, q12, q13⟩, fun U hU hW => ⟨rfl, hU, hh_4.2.1, hG.step hW hU hh_4.1, hg_tx_, jP.nil, (hh_4.2.2.2.2.2.2.2.1.sub (L1 := [(tx_, 173, 1500, ca 1, ft)]) [0] rfl), by first | omega | (refine ⟨?_, ?_, ?_, ?_⟩ <;> (first | omega | rfl | assumption | decide | exact Or.inl rfl | exact Or.inr rfl | (simp only; omega)))⟩⟩ rfl rfl hl.1 rfl (lv_room (Nat.le_of_ble_eq_true rfl)) dX1_sentenceEnd_44 ⟨Nat.zero_le _, Nat.zero_le _⟩) hh_4.1 (fun q _ h => h) (fun q h => h) (fun r_24 u_23 t_23 H_23 locs_23 ht_23 hvm_23 hr_24 hb_23 hz_23 hk_23 hS_23 => ?_)
            rw [ht_23] at hb_23
            obtain ⟨hb_231, hb_232, hb_233, hb_234, hb_235⟩ := hb_23
            have hh_23 : jSt (dC, dI) B base G0 G0 EX1_sentenceEndP s.heap 0 0 [(r0, 3, 3, .int pl), (r0, 3, 2, .ref tx_)] [(tx_, 173, 1500, ca 1, ft)] [] H_23 locs_23 := ((hh_4.call hb_231 hb_232 hb_233 hb_234 hS_23 rfl (L1 := [(r0, 3, 3, .int pl), (r0, 3, 2, .ref tx_)]) [0, 1] rfl rfl (M1 := [(tx_, 173, 1500, ca 1, ft)]) [0] rfl rfl (I1 := []) [] rfl rfl).more hb_235)
            clear hh_4 ht_23 hvm_23 hz_23 hk_23 hS_23 hb_231 hb_232 hb_233 hb_234 hb_235
            obtain ⟨hr_24_0, hr_24_1⟩ := hr_24
            refine lv_istore_n (lv' := [(2, .int r_24), (0, .ref r0), (1, .int a1), (3, .int v3_1)]) hx hb dX1_sentenceEnd_47 rfl hl (by decide) rfl (fun ls hl => ?_)
            refine lv_iload_n hx hb dX1_sentenceEnd_48 rfl (lv_at hl 0 rfl) ?_
            refine lv_if_ge (tgt := 117) hx hb dX1_sentenceEnd_49 (by decide) (fun c_25 => ?_) (fun c_25 => ?_)
            · skip
              have c_25' : r_24.toInt ≥ 0 := jb_ge (rfl) ((by decide)) c_25
              first | (have hr_24_1q := hr_24_1.resolve_left (by omega); clear hr_24_1) | (have hr_24_1q := hr_24_1.resolve_right (by omega); clear hr_24_1) | skip
              obtain ⟨z_26, ez_26⟩ : ∃ y : Int32, y = v3_1 + 1 := ⟨_, rfl⟩
              refine lv_iinc (v := z_26) (lv' := [(3, .int z_26), (2, .int r_24), (0, .ref r0), (1, .int a1)]) hx hb dX1_sentenceEnd_117 hl (k := 3) rfl (by rw [ez_26]; rfl) (by decide) rfl (fun ls hl => ?_)
              have hz_26 : z_26.toInt = v3_1.toInt + 1 := by rw [ez_26]; exact jb_iadd2 (rfl) (by decide) (by omega)
              refine lv_goto (tgt := 4) hx hb dX1_sentenceEnd_120 (by decide) ?_
              exact L4 r_24 z_26 (kf - 1) _ _ hh_23 (by refine ⟨by omega, by omega, by omega, by omega, by omega, ?_⟩; first | exact (jSx_c (by omega) (by omega) (by omega) (by omega) (jCe.op hr_24_0 (by omega))).trans hi_1_5 | exact (jSx_n (by omega) (by omega) (by omega) (jDt_0 (by first | exact Or.inl (by rw [← (zz_none)]; omega) | exact Or.inr ⟨by omega, (by rw [← (zz_none), ← (zz_none)]; omega), by omega⟩)) (by omega)).trans hi_1_5) (by omega) _ (lv_sub hl [2, 3, 1, 0] rfl)
            · skip
              have c_25' : r_24.toInt < 0 := jb_ge_n (rfl) ((by decide)) c_25
              first | (have hr_24_1q := hr_24_1.resolve_left (by omega); clear hr_24_1) | (have hr_24_1q := hr_24_1.resolve_right (by omega); clear hr_24_1) | skip
              refine lv_iconst (v := (-1)) hx hb dX1_sentenceEnd_52 (by decide) ?_
              rw [hQ]
              exact W.iret (v := (-1)) hx hb hr (fun t ht hW => ⟨⟨(-1), (), rfl, by refine ⟨?_, by omega⟩; exact (jSx_u (b := r_24.toInt) (by omega) (by omega) (by omega) (by omega) (jCe.op hr_24_0 (by omega)) hkm1).trans hi_1_5, hh_23.rt (M1 := []) [] rfl ht⟩, by rw [ht]; try exact hh_23.1.1, fun q h9 hq => by rw [ht]; try exact hh_23.1.2.1 q h9 hq⟩) hh_23.1.2.2 dX1_sentenceEnd_53
  exact L4 (pl.toInt - (a1 : Int32).toInt : Int).toNat.succ a1 0 ((pl.toInt - a1.toInt).toNat + 1) _ _ hh (by refine ⟨by omega, by omega, by omega, by omega, by omega, rfl⟩) (by omega) _ (lv_sub hl [2, 3, 1, 0] rfl)
end
section
def EX4_valueOfJ : List (Nat × Nat) := []
def EX4_firstOfJ : List (Nat × Nat) := []
def EX4_nextOfJ : List (Nat × Nat) := []
set_option maxHeartbeats 4000000 in
set_option maxRecDepth 20000 in
theorem uX4_valueOfJ (l : Launch) (dC : Nat → ClassId) (dI : Nat → Nat → Nat) (ca : Nat → ClassId) (base : Nat) (B : jF) (hB : jBok B) (hAp : jAp (dC, dI)) (hB6 : ∀ n G a H, B 6 n G a H ↔ jOb (dC, dI) 6 12 (F6 n G) a H) (hB141 : ∀ n G a H, B 141 n G a H ↔ jAr (dC, dI) (ca 1) (fun j z => True) n a H) (G0 : jT) (H0 : Heap) (r0 : Nat) (a1 : Int32) (pv : Int32) (pu : Int32) (wk : Nat) (wi : Nat) (wz : Nat) (jnx : Nat) (jkf : Nat) (jks : Nat) (jun : Nat) (T9 : Nat → Int → Int) (fk : Nat → Int32) (fi : Nat → Int32) (fz : Nat → Int32) (fn : Nat → Int32) (fa : Nat → Int32) (fs : Nat → Int32) (fu : Nat → Int32) : Met l yX4_valueOf (jw yX4_valueOf cX4_valueOf 2 (some .int)) ({ frames := 0, cells := 0, slots := 0, locals := 0 }) (va_Pc [.ref r0, .int a1] (fun U => U.heap = H0 ∧ jX B base G0 [] H0 ∧ jG dC dI ca base U ∧ G0 r0 = some (6, 0) ∧ G0 wk = some (140, 1502) ∧ G0 wi = some (141, 1502) ∧ G0 wz = some (142, 1502) ∧ G0 jnx = some (143, 1502) ∧ G0 jkf = some (144, 1502) ∧ G0 jks = some (145, 1502) ∧ G0 jun = some (146, 3000) ∧ jP (dC, dI) G0 H0 [(r0, 6, 7, .int pv), (r0, 6, 8, .int pu), (r0, 6, 0, .ref wk), (r0, 6, 1, .ref wi), (r0, 6, 2, .ref wz), (r0, 6, 3, .ref jnx), (r0, 6, 4, .ref jkf), (r0, 6, 5, .ref jks), (r0, 6, 6, .ref jun)] ∧ jMc (dC, dI) G0 H0 [(wk, 140, 1502, ca 1, fk), (wi, 141, 1502, ca 1, fi), (wz, 142, 1502, ca 1, fz), (jnx, 143, 1502, ca 1, fn), (jkf, 144, 1502, ca 1, fa), (jks, 145, 1502, ca 1, fs), (jun, 146, 3000, ca 1, fu)] ∧ 0 ≤ pv.toInt ∧ pv.toInt ≤ 1502 ∧ 0 ≤ pu.toInt ∧ pu.toInt ≤ 3000 ∧ jjTC T9 pv.toInt pu.toInt fk fi fz fn fa fs fu)) (va_Qi (S := Unit) (fun r u => (r.toInt = jqV T9 pv.toInt a1.toInt)) (fun u t => (jRt (dC, dI) B base G0 EX4_valueOfJ H0 [] t.heap) ∧ jKl [] H0 t.heap) (jA base)) 0 0 (jA base) := by
  refine Met.ofW (cc := cX4_valueOf) (maxL := 2) (ret := (some .int)) (by decide) rfl ?_
  intro p e s m args below meth c s₁ Bd hml hv
  obtain ⟨rfl, hH0, hX, hG, hg_r0, hg_wk, hg_wi, hg_wz, hg_jnx, hg_jkf, hg_jks, hg_jun, hP0, hM0, hp0, hp1, hp2, hp3, hp4⟩ := hv
  have hK := hG.1
  have hx := Bd.exec
  have hb := Bd.bytes
  have hr := Bd.returns
  have hts := atoms_spec (ws := (jw yX4_valueOf cX4_valueOf 2 (some .int))) Bd.pre
  have htw : ∀ w ∈ jWl, w.before _ s = true := fun w h => hts w (List.mem_cons_of_mem _ h)
  have hown : s.vm.findClass RX4 = some m.cls := findClass_of_methodNamed Bd.named
  have hlocks := Bd.notSynchronized
  obtain ⟨Q, hQ⟩ : ∃ Q, Q = MQ below (va_Qi (S := Unit) (fun r u => (r.toInt = jqV T9 pv.toInt a1.toInt)) (fun u t => (jRt (dC, dI) B base G0 EX4_valueOfJ H0 [] t.heap) ∧ jKl [] H0 t.heap) (jA base)) ([.ref r0, .int a1] : List Value).toArray s 0 0 (jA base) := ⟨_, rfl⟩
  rw [← hQ]
  have hl := lv_entry ([.ref r0, .int a1]) (n := 2) (Nat.le_of_ble_eq_true rfl)
  rw [lg_entry_eq]
  generalize (lg_sl ([.ref r0, .int a1]) ++ List.replicate (2 - (lg_sl ([.ref r0, .int a1])).length) Slot.unset).toArray = ls at hl ⊢
  have hl : lv_has ls 2 [(0, .ref r0), (1, .int a1)] := hl
  generalize hR : (headSpec (jw yX4_valueOf cX4_valueOf 2 (some .int)) ({ frames := 0, cells := 0, slots := 0, locals := 0 })).room = R
  subst hH0
  have hh : jSt (dC, dI) B base G0 G0 EX4_valueOfJ s.heap 0 0 [(r0, 6, 7, .int pv), (r0, 6, 8, .int pu), (r0, 6, 0, .ref wk), (r0, 6, 1, .ref wi), (r0, 6, 2, .ref wz), (r0, 6, 3, .ref jnx), (r0, 6, 4, .ref jkf), (r0, 6, 5, .ref jks), (r0, 6, 6, .ref jun)] [(wk, 140, 1502, ca 1, fk), (wi, 141, 1502, ca 1, fi), (wz, 142, 1502, ca 1, fz), (jnx, 143, 1502, ca 1, fn), (jkf, 144, 1502, ca 1, fa), (jks, 145, 1502, ca 1, fs), (jun, 146, 3000, ca 1, fu)] [] s.heap [] := jSt.start hX hP0 hM0 jIs.nil
  clear hX hP0
  have hk0 : (0 : Int32).toInt = 0 := by decide
  have hk1 : (1 : Int32).toInt = 1 := by decide
  have hly_6_1 := htw (u_lay RX4 TX4 1) (jWc_wsX40 _ (u_in_lay (by decide)))
  have hly_6_7 := htw (u_lay RX4 TX4 7) (jWc_wsX40 _ (u_in_lay (by decide)))
  have hlk_50 := (htw (.fieldLink RX4 50 "ProofServer$Json" "values" "I") (jWr_19 _ (List.mem_of_getElem? (i := 13) rfl)))
  have hlk_15 := (htw (.fieldLink RX4 15 "ProofServer$Json" "firsts" "[I") (jWr_3 _ (List.mem_of_getElem? (i := 22) rfl)))
  have hrg_a1 := jb_rng a1
  have hfl : jKl [] s.heap s.heap := jKl.rf
  refine lv_iload_n hx hb dX4_valueOf_0 rfl (lv_at hl 1 rfl) ?_
  refine lv_if_lt (tgt := 12) hx hb dX4_valueOf_1 (by decide) (fun c_1 => ?_) (fun c_1 => ?_)
  · skip
    have c_1' : a1.toInt < 0 := jb_lt (rfl) ((by decide)) c_1
    refine lv_iconst (v := 0) hx hb dX4_valueOf_12 (by decide) ?_
    refine lv_goto (tgt := 22) hx hb dX4_valueOf_13 (by decide) ?_
    rw [hQ]
    exact W.iret (v := 0) hx hb hr (fun t ht hW => ⟨⟨0, (), rfl, by unfold jqV; rw [if_neg (fun h9 => by omega)]; exact hk0, ⟨hh.rt (M1 := []) [] rfl ht, by rw [ht]; exact hfl⟩⟩, by rw [ht]; try exact hh.1.1, fun q h9 hq => by rw [ht]; try exact hh.1.2.1 q h9 hq⟩) hh.1.2.2 dX4_valueOf_22
  · skip
    have c_1' : a1.toInt ≥ 0 := jb_lt_n (rfl) ((by decide)) c_1
    refine lv_iload_n hx hb dX4_valueOf_4 rfl (lv_at hl 1 rfl) ?_
    refine lv_aload_n hx hb dX4_valueOf_5 rfl (lv_at hl 0 rfl) ?_
    refine j7_read hx hb hown hK (C := RX4) (T := TX4) (N := 12) rfl hly_6_7 hlk_50 (hh.at 0 rfl) dX4_valueOf_6 ?_
    refine lv_icmp_lt (tgt := 16) hx hb dX4_valueOf_9 (by decide) (fun c_2 => ?_) (fun c_2 => ?_)
    · skip
      have c_2' : a1.toInt < pv.toInt := jb_lt (rfl) (rfl) c_2
      refine lv_aload_n hx hb dX4_valueOf_16 rfl (lv_at hl 0 rfl) ?_
      refine j7_read hx hb hown hK (C := RX4) (T := TX4) (N := 12) rfl hly_6_1 hlk_15 (hh.at 3 rfl) dX4_valueOf_17 ?_
      refine lv_iload_n hx hb dX4_valueOf_20 rfl (lv_at hl 1 rfl) ?_
      refine j7_ialdM hx hb hK hh hB141 1 rfl (by decide) hg_wi (x := a1.toInt) (rfl) (by omega) (j := 1) rfl dX4_valueOf_21 (fun z_3 ez_3 (hz_3 : True) => ?_)
      have hqz_3 : z_3.toInt = jSo fi (a1.toInt) := by unfold jSo; rw [ez_3]
      rw [hQ]
      exact W.iret (v := z_3) hx hb hr (fun t ht hW => ⟨⟨z_3, (), rfl, by unfold jqV; rw [if_pos ⟨by omega, by omega⟩]; exact hqz_3.trans (hp4.2.1 _ (by omega) (by omega)).symm, ⟨hh.rt (M1 := []) [] rfl ht, by rw [ht]; exact hfl⟩⟩, by rw [ht]; try exact hh.1.1, fun q h9 hq => by rw [ht]; try exact hh.1.2.1 q h9 hq⟩) hh.1.2.2 dX4_valueOf_22
    · skip
      have c_2' : a1.toInt ≥ pv.toInt := jb_lt_n (rfl) (rfl) c_2
      refine lv_iconst (v := 0) hx hb dX4_valueOf_12 (by decide) ?_
      refine lv_goto (tgt := 22) hx hb dX4_valueOf_13 (by decide) ?_
      rw [hQ]
      exact W.iret (v := 0) hx hb hr (fun t ht hW => ⟨⟨0, (), rfl, by unfold jqV; rw [if_neg (fun h9 => by omega)]; exact hk0, ⟨hh.rt (M1 := []) [] rfl ht, by rw [ht]; exact hfl⟩⟩, by rw [ht]; try exact hh.1.1, fun q h9 hq => by rw [ht]; try exact hh.1.2.1 q h9 hq⟩) hh.1.2.2 dX4_valueOf_22
set_option maxHeartbeats 4000000 in
set_option maxRecDepth 20000 in
theorem uX4_firstOfJ (l : Launch) (dC : Nat → ClassId) (dI : Nat → Nat → Nat) (ca : Nat → ClassId) (base : Nat) (B : jF) (hB : jBok B) (hAp : jAp (dC, dI)) (hB6 : ∀ n G a H, B 6 n G a H ↔ jOb (dC, dI) 6 12 (F6 n G) a H) (hB141 : ∀ n G a H, B 141 n G a H ↔ jAr (dC, dI) (ca 1) (fun j z => True) n a H) (G0 : jT) (H0 : Heap) (r0 : Nat) (a1 : Int32) (pv : Int32) (pu : Int32) (wk : Nat) (wi : Nat) (wz : Nat) (jnx : Nat) (jkf : Nat) (jks : Nat) (jun : Nat) (T9 : Nat → Int → Int) (fk : Nat → Int32) (fi : Nat → Int32) (fz : Nat → Int32) (fn : Nat → Int32) (fa : Nat → Int32) (fs : Nat → Int32) (fu : Nat → Int32) : Met l yX4_firstOf (jw yX4_firstOf cX4_firstOf 2 (some .int)) ({ frames := 0, cells := 0, slots := 0, locals := 0 }) (va_Pc [.ref r0, .int a1] (fun U => U.heap = H0 ∧ jX B base G0 [] H0 ∧ jG dC dI ca base U ∧ G0 r0 = some (6, 0) ∧ G0 wk = some (140, 1502) ∧ G0 wi = some (141, 1502) ∧ G0 wz = some (142, 1502) ∧ G0 jnx = some (143, 1502) ∧ G0 jkf = some (144, 1502) ∧ G0 jks = some (145, 1502) ∧ G0 jun = some (146, 3000) ∧ jP (dC, dI) G0 H0 [(r0, 6, 7, .int pv), (r0, 6, 8, .int pu), (r0, 6, 0, .ref wk), (r0, 6, 1, .ref wi), (r0, 6, 2, .ref wz), (r0, 6, 3, .ref jnx), (r0, 6, 4, .ref jkf), (r0, 6, 5, .ref jks), (r0, 6, 6, .ref jun)] ∧ jMc (dC, dI) G0 H0 [(wk, 140, 1502, ca 1, fk), (wi, 141, 1502, ca 1, fi), (wz, 142, 1502, ca 1, fz), (jnx, 143, 1502, ca 1, fn), (jkf, 144, 1502, ca 1, fa), (jks, 145, 1502, ca 1, fs), (jun, 146, 3000, ca 1, fu)] ∧ 0 ≤ pv.toInt ∧ pv.toInt ≤ 1502 ∧ 0 ≤ pu.toInt ∧ pu.toInt ≤ 3000 ∧ jjTC T9 pv.toInt pu.toInt fk fi fz fn fa fs fu)) (va_Qi (S := Unit) (fun r u => (r.toInt = jqF T9 pv.toInt a1.toInt)) (fun u t => (jRt (dC, dI) B base G0 EX4_firstOfJ H0 [] t.heap) ∧ jKl [] H0 t.heap) (jA base)) 0 0 (jA base) := by
  refine Met.ofW (cc := cX4_firstOf) (maxL := 2) (ret := (some .int)) (by decide) rfl ?_
  intro p e s m args below meth c s₁ Bd hml hv
  obtain ⟨rfl, hH0, hX, hG, hg_r0, hg_wk, hg_wi, hg_wz, hg_jnx, hg_jkf, hg_jks, hg_jun, hP0, hM0, hp0, hp1, hp2, hp3, hp4⟩ := hv
  have hK := hG.1
  have hx := Bd.exec
  have hb := Bd.bytes
  have hr := Bd.returns
  have hts := atoms_spec (ws := (jw yX4_firstOf cX4_firstOf 2 (some .int))) Bd.pre
  have htw : ∀ w ∈ jWl, w.before _ s = true := fun w h => hts w (List.mem_cons_of_mem _ h)
  have hown : s.vm.findClass RX4 = some m.cls := findClass_of_methodNamed Bd.named
  have hlocks := Bd.notSynchronized
  obtain ⟨Q, hQ⟩ : ∃ Q, Q = MQ below (va_Qi (S := Unit) (fun r u => (r.toInt = jqF T9 pv.toInt a1.toInt)) (fun u t => (jRt (dC, dI) B base G0 EX4_firstOfJ H0 [] t.heap) ∧ jKl [] H0 t.heap) (jA base)) ([.ref r0, .int a1] : List Value).toArray s 0 0 (jA base) := ⟨_, rfl⟩
  rw [← hQ]
  have hl := lv_entry ([.ref r0, .int a1]) (n := 2) (Nat.le_of_ble_eq_true rfl)
  rw [lg_entry_eq]
  generalize (lg_sl ([.ref r0, .int a1]) ++ List.replicate (2 - (lg_sl ([.ref r0, .int a1])).length) Slot.unset).toArray = ls at hl ⊢
  have hl : lv_has ls 2 [(0, .ref r0), (1, .int a1)] := hl
  generalize hR : (headSpec (jw yX4_firstOf cX4_firstOf 2 (some .int)) ({ frames := 0, cells := 0, slots := 0, locals := 0 })).room = R
  subst hH0
  have hh : jSt (dC, dI) B base G0 G0 EX4_firstOfJ s.heap 0 0 [(r0, 6, 7, .int pv), (r0, 6, 8, .int pu), (r0, 6, 0, .ref wk), (r0, 6, 1, .ref wi), (r0, 6, 2, .ref wz), (r0, 6, 3, .ref jnx), (r0, 6, 4, .ref jkf), (r0, 6, 5, .ref jks), (r0, 6, 6, .ref jun)] [(wk, 140, 1502, ca 1, fk), (wi, 141, 1502, ca 1, fi), (wz, 142, 1502, ca 1, fz), (jnx, 143, 1502, ca 1, fn), (jkf, 144, 1502, ca 1, fa), (jks, 145, 1502, ca 1, fs), (jun, 146, 3000, ca 1, fu)] [] s.heap [] := jSt.start hX hP0 hM0 jIs.nil
  clear hX hP0
  have hkm1 : ((-1) : Int32).toInt = (-1) := by decide
  have hk0 : (0 : Int32).toInt = 0 := by decide
  have hk1 : (1 : Int32).toInt = 1 := by decide
  have hly_6_1 := htw (u_lay RX4 TX4 1) (jWc_wsX40 _ (u_in_lay (by decide)))
  have hly_6_7 := htw (u_lay RX4 TX4 7) (jWc_wsX40 _ (u_in_lay (by decide)))
  have hlk_50 := (htw (.fieldLink RX4 50 "ProofServer$Json" "values" "I") (jWr_19 _ (List.mem_of_getElem? (i := 13) rfl)))
  have hlk_15 := (htw (.fieldLink RX4 15 "ProofServer$Json" "firsts" "[I") (jWr_3 _ (List.mem_of_getElem? (i := 22) rfl)))
  have hrg_a1 := jb_rng a1
  have hfl : jKl [] s.heap s.heap := jKl.rf
  refine lv_iload_n hx hb dX4_firstOf_0 rfl (lv_at hl 1 rfl) ?_
  refine lv_if_lt (tgt := 12) hx hb dX4_firstOf_1 (by decide) (fun c_1 => ?_) (fun c_1 => ?_)
  · skip
    have c_1' : a1.toInt < 0 := jb_lt (rfl) ((by decide)) c_1
    refine lv_iconst (v := (-1)) hx hb dX4_firstOf_12 (by decide) ?_
    refine lv_goto (tgt := 22) hx hb dX4_firstOf_13 (by decide) ?_
    rw [hQ]
    exact W.iret (v := (-1)) hx hb hr (fun t ht hW => ⟨⟨(-1), (), rfl, by unfold jqF; rw [if_neg (fun h9 => by omega)]; exact hkm1, ⟨hh.rt (M1 := []) [] rfl ht, by rw [ht]; exact hfl⟩⟩, by rw [ht]; try exact hh.1.1, fun q h9 hq => by rw [ht]; try exact hh.1.2.1 q h9 hq⟩) hh.1.2.2 dX4_firstOf_22
  · skip
    have c_1' : a1.toInt ≥ 0 := jb_lt_n (rfl) ((by decide)) c_1
    refine lv_iload_n hx hb dX4_firstOf_4 rfl (lv_at hl 1 rfl) ?_
    refine lv_aload_n hx hb dX4_firstOf_5 rfl (lv_at hl 0 rfl) ?_
    refine j7_read hx hb hown hK (C := RX4) (T := TX4) (N := 12) rfl hly_6_7 hlk_50 (hh.at 0 rfl) dX4_firstOf_6 ?_
    refine lv_icmp_lt (tgt := 16) hx hb dX4_firstOf_9 (by decide) (fun c_2 => ?_) (fun c_2 => ?_)
    · skip
      have c_2' : a1.toInt < pv.toInt := jb_lt (rfl) (rfl) c_2
      refine lv_aload_n hx hb dX4_firstOf_16 rfl (lv_at hl 0 rfl) ?_
      refine j7_read hx hb hown hK (C := RX4) (T := TX4) (N := 12) rfl hly_6_1 hlk_15 (hh.at 3 rfl) dX4_firstOf_17 ?_
      refine lv_iload_n hx hb dX4_firstOf_20 rfl (lv_at hl 1 rfl) ?_
      refine j7_ialdM hx hb hK hh hB141 1 rfl (by decide) hg_wi (x := a1.toInt) (rfl) (by omega) (j := 1) rfl dX4_firstOf_21 (fun z_3 ez_3 (hz_3 : True) => ?_)
      have hqz_3 : z_3.toInt = jSo fi (a1.toInt) := by unfold jSo; rw [ez_3]
      rw [hQ]
      exact W.iret (v := z_3) hx hb hr (fun t ht hW => ⟨⟨z_3, (), rfl, by unfold jqF; rw [if_pos ⟨by omega, by omega⟩]; exact hqz_3.trans (hp4.2.1 _ (by omega) (by omega)).symm, ⟨hh.rt (M1 := []) [] rfl ht, by rw [ht]; exact hfl⟩⟩, by rw [ht]; try exact hh.1.1, fun q h9 hq => by rw [ht]; try exact hh.1.2.1 q h9 hq⟩) hh.1.2.2 dX4_firstOf_22
    · skip
      have c_2' : a1.toInt ≥ pv.toInt := jb_lt_n (rfl) (rfl) c_2
      refine lv_iconst (v := (-1)) hx hb dX4_firstOf_12 (by decide) ?_
      refine lv_goto (tgt := 22) hx hb dX4_firstOf_13 (by decide) ?_
      rw [hQ]
      exact W.iret (v := (-1)) hx hb hr (fun t ht hW => ⟨⟨(-1), (), rfl, by unfold jqF; rw [if_neg (fun h9 => by omega)]; exact hkm1, ⟨hh.rt (M1 := []) [] rfl ht, by rw [ht]; exact hfl⟩⟩, by rw [ht]; try exact hh.1.1, fun q h9 hq => by rw [ht]; try exact hh.1.2.1 q h9 hq⟩) hh.1.2.2 dX4_firstOf_22
set_option maxHeartbeats 4000000 in
set_option maxRecDepth 20000 in
theorem uX4_nextOfJ (l : Launch) (dC : Nat → ClassId) (dI : Nat → Nat → Nat) (ca : Nat → ClassId) (base : Nat) (B : jF) (hB : jBok B) (hAp : jAp (dC, dI)) (hB6 : ∀ n G a H, B 6 n G a H ↔ jOb (dC, dI) 6 12 (F6 n G) a H) (hB143 : ∀ n G a H, B 143 n G a H ↔ jAr (dC, dI) (ca 1) (fun j z => True) n a H) (G0 : jT) (H0 : Heap) (r0 : Nat) (a1 : Int32) (pv : Int32) (pu : Int32) (wk : Nat) (wi : Nat) (wz : Nat) (jnx : Nat) (jkf : Nat) (jks : Nat) (jun : Nat) (T9 : Nat → Int → Int) (fk : Nat → Int32) (fi : Nat → Int32) (fz : Nat → Int32) (fn : Nat → Int32) (fa : Nat → Int32) (fs : Nat → Int32) (fu : Nat → Int32) : Met l yX4_nextOf (jw yX4_nextOf cX4_nextOf 2 (some .int)) ({ frames := 0, cells := 0, slots := 0, locals := 0 }) (va_Pc [.ref r0, .int a1] (fun U => U.heap = H0 ∧ jX B base G0 [] H0 ∧ jG dC dI ca base U ∧ G0 r0 = some (6, 0) ∧ G0 wk = some (140, 1502) ∧ G0 wi = some (141, 1502) ∧ G0 wz = some (142, 1502) ∧ G0 jnx = some (143, 1502) ∧ G0 jkf = some (144, 1502) ∧ G0 jks = some (145, 1502) ∧ G0 jun = some (146, 3000) ∧ jP (dC, dI) G0 H0 [(r0, 6, 7, .int pv), (r0, 6, 8, .int pu), (r0, 6, 0, .ref wk), (r0, 6, 1, .ref wi), (r0, 6, 2, .ref wz), (r0, 6, 3, .ref jnx), (r0, 6, 4, .ref jkf), (r0, 6, 5, .ref jks), (r0, 6, 6, .ref jun)] ∧ jMc (dC, dI) G0 H0 [(wk, 140, 1502, ca 1, fk), (wi, 141, 1502, ca 1, fi), (wz, 142, 1502, ca 1, fz), (jnx, 143, 1502, ca 1, fn), (jkf, 144, 1502, ca 1, fa), (jks, 145, 1502, ca 1, fs), (jun, 146, 3000, ca 1, fu)] ∧ 0 ≤ pv.toInt ∧ pv.toInt ≤ 1502 ∧ 0 ≤ pu.toInt ∧ pu.toInt ≤ 3000 ∧ jjTC T9 pv.toInt pu.toInt fk fi fz fn fa fs fu)) (va_Qi (S := Unit) (fun r u => (r.toInt = jqN T9 pv.toInt a1.toInt)) (fun u t => (jRt (dC, dI) B base G0 EX4_nextOfJ H0 [] t.heap) ∧ jKl [] H0 t.heap) (jA base)) 0 0 (jA base) := by
  refine Met.ofW (cc := cX4_nextOf) (maxL := 2) (ret := (some .int)) (by decide) rfl ?_
  intro p e s m args below meth c s₁ Bd hml hv
  obtain ⟨rfl, hH0, hX, hG, hg_r0, hg_wk, hg_wi, hg_wz, hg_jnx, hg_jkf, hg_jks, hg_jun, hP0, hM0, hp0, hp1, hp2, hp3, hp4⟩ := hv
  have hK := hG.1
  have hx := Bd.exec
  have hb := Bd.bytes
  have hr := Bd.returns
  have hts := atoms_spec (ws := (jw yX4_nextOf cX4_nextOf 2 (some .int))) Bd.pre
  have htw : ∀ w ∈ jWl, w.before _ s = true := fun w h => hts w (List.mem_cons_of_mem _ h)
  have hown : s.vm.findClass RX4 = some m.cls := findClass_of_methodNamed Bd.named
  have hlocks := Bd.notSynchronized
  obtain ⟨Q, hQ⟩ : ∃ Q, Q = MQ below (va_Qi (S := Unit) (fun r u => (r.toInt = jqN T9 pv.toInt a1.toInt)) (fun u t => (jRt (dC, dI) B base G0 EX4_nextOfJ H0 [] t.heap) ∧ jKl [] H0 t.heap) (jA base)) ([.ref r0, .int a1] : List Value).toArray s 0 0 (jA base) := ⟨_, rfl⟩
  rw [← hQ]
  have hl := lv_entry ([.ref r0, .int a1]) (n := 2) (Nat.le_of_ble_eq_true rfl)
  rw [lg_entry_eq]
  generalize (lg_sl ([.ref r0, .int a1]) ++ List.replicate (2 - (lg_sl ([.ref r0, .int a1])).length) Slot.unset).toArray = ls at hl ⊢
  have hl : lv_has ls 2 [(0, .ref r0), (1, .int a1)] := hl
  generalize hR : (headSpec (jw yX4_nextOf cX4_nextOf 2 (some .int)) ({ frames := 0, cells := 0, slots := 0, locals := 0 })).room = R
  subst hH0
  have hh : jSt (dC, dI) B base G0 G0 EX4_nextOfJ s.heap 0 0 [(r0, 6, 7, .int pv), (r0, 6, 8, .int pu), (r0, 6, 0, .ref wk), (r0, 6, 1, .ref wi), (r0, 6, 2, .ref wz), (r0, 6, 3, .ref jnx), (r0, 6, 4, .ref jkf), (r0, 6, 5, .ref jks), (r0, 6, 6, .ref jun)] [(wk, 140, 1502, ca 1, fk), (wi, 141, 1502, ca 1, fi), (wz, 142, 1502, ca 1, fz), (jnx, 143, 1502, ca 1, fn), (jkf, 144, 1502, ca 1, fa), (jks, 145, 1502, ca 1, fs), (jun, 146, 3000, ca 1, fu)] [] s.heap [] := jSt.start hX hP0 hM0 jIs.nil
  clear hX hP0
  have hkm1 : ((-1) : Int32).toInt = (-1) := by decide
  have hk0 : (0 : Int32).toInt = 0 := by decide
  have hk1 : (1 : Int32).toInt = 1 := by decide
  have hly_6_3 := htw (u_lay RX4 TX4 3) (jWc_wsX40 _ (u_in_lay (by decide)))
  have hly_6_7 := htw (u_lay RX4 TX4 7) (jWc_wsX40 _ (u_in_lay (by decide)))
  have hlk_50 := (htw (.fieldLink RX4 50 "ProofServer$Json" "values" "I") (jWr_19 _ (List.mem_of_getElem? (i := 13) rfl)))
  have hlk_21 := (htw (.fieldLink RX4 21 "ProofServer$Json" "nexts" "[I") (jWr_4 _ (List.mem_of_getElem? (i := 0) rfl)))
  have hrg_a1 := jb_rng a1
  have hfl : jKl [] s.heap s.heap := jKl.rf
  refine lv_iload_n hx hb dX4_nextOf_0 rfl (lv_at hl 1 rfl) ?_
  refine lv_if_lt (tgt := 12) hx hb dX4_nextOf_1 (by decide) (fun c_1 => ?_) (fun c_1 => ?_)
  · skip
    have c_1' : a1.toInt < 0 := jb_lt (rfl) ((by decide)) c_1
    refine lv_iconst (v := (-1)) hx hb dX4_nextOf_12 (by decide) ?_
    refine lv_goto (tgt := 22) hx hb dX4_nextOf_13 (by decide) ?_
    rw [hQ]
    exact W.iret (v := (-1)) hx hb hr (fun t ht hW => ⟨⟨(-1), (), rfl, by unfold jqN; rw [if_neg (fun h9 => by omega)]; exact hkm1, ⟨hh.rt (M1 := []) [] rfl ht, by rw [ht]; exact hfl⟩⟩, by rw [ht]; try exact hh.1.1, fun q h9 hq => by rw [ht]; try exact hh.1.2.1 q h9 hq⟩) hh.1.2.2 dX4_nextOf_22
  · skip
    have c_1' : a1.toInt ≥ 0 := jb_lt_n (rfl) ((by decide)) c_1
    refine lv_iload_n hx hb dX4_nextOf_4 rfl (lv_at hl 1 rfl) ?_
    refine lv_aload_n hx hb dX4_nextOf_5 rfl (lv_at hl 0 rfl) ?_
    refine j7_read hx hb hown hK (C := RX4) (T := TX4) (N := 12) rfl hly_6_7 hlk_50 (hh.at 0 rfl) dX4_nextOf_6 ?_
    refine lv_icmp_lt (tgt := 16) hx hb dX4_nextOf_9 (by decide) (fun c_2 => ?_) (fun c_2 => ?_)
    · skip
      have c_2' : a1.toInt < pv.toInt := jb_lt (rfl) (rfl) c_2
      refine lv_aload_n hx hb dX4_nextOf_16 rfl (lv_at hl 0 rfl) ?_
      refine j7_read hx hb hown hK (C := RX4) (T := TX4) (N := 12) rfl hly_6_3 hlk_21 (hh.at 5 rfl) dX4_nextOf_17 ?_
      refine lv_iload_n hx hb dX4_nextOf_20 rfl (lv_at hl 1 rfl) ?_
      refine j7_ialdM hx hb hK hh hB143 1 rfl (by decide) hg_jnx (x := a1.toInt) (rfl) (by omega) (j := 3) rfl dX4_nextOf_21 (fun z_3 ez_3 (hz_3 : True) => ?_)
      have hqz_3 : z_3.toInt = jSo fn (a1.toInt) := by unfold jSo; rw [ez_3]
      rw [hQ]
      exact W.iret (v := z_3) hx hb hr (fun t ht hW => ⟨⟨z_3, (), rfl, by unfold jqN; rw [if_pos ⟨by omega, by omega⟩]; exact hqz_3.trans (hp4.2.2.2.1 _ (by omega) (by omega)).symm, ⟨hh.rt (M1 := []) [] rfl ht, by rw [ht]; exact hfl⟩⟩, by rw [ht]; try exact hh.1.1, fun q h9 hq => by rw [ht]; try exact hh.1.2.1 q h9 hq⟩) hh.1.2.2 dX4_nextOf_22
    · skip
      have c_2' : a1.toInt ≥ pv.toInt := jb_lt_n (rfl) (rfl) c_2
      refine lv_iconst (v := (-1)) hx hb dX4_nextOf_12 (by decide) ?_
      refine lv_goto (tgt := 22) hx hb dX4_nextOf_13 (by decide) ?_
      rw [hQ]
      exact W.iret (v := (-1)) hx hb hr (fun t ht hW => ⟨⟨(-1), (), rfl, by unfold jqN; rw [if_neg (fun h9 => by omega)]; exact hkm1, ⟨hh.rt (M1 := []) [] rfl ht, by rw [ht]; exact hfl⟩⟩, by rw [ht]; try exact hh.1.1, fun q h9 hq => by rw [ht]; try exact hh.1.2.1 q h9 hq⟩) hh.1.2.2 dX4_nextOf_22
end
section
-- p9: the texts of all documents, as a walk carries them; System.arraycopy of ints with contents
section J91
variable {dC : Nat → ClassId} {dI : Nat → Nat → Nat} {ca : Nat → ClassId} {G G1 : jT} {H H1 : Heap} {x : Option Nat} {t : jDtl}
end J91
-- the reference's
section J92
variable {dC : Nat → ClassId} {dI : Nat → Nat → Nat} {ca : Nat → ClassId} {G G1 : jT} {H H1 : Heap} {x : Option Nat} {t : jDtr}
end J92
section J93
variable {p : Program} {l : Launch} {e : Env} {R : Room} {s : State} {m : MethodId} {args : Array Value} {below : List Frame} {meth : Method} {c : Code} {H : Heap} {locs : List Loc} {cells slots : Nat} {Q : State → Prop}
variable {cc : ByteArray} {pc : Nat} {ls : Array Slot} {rest : List Value} {dC : Nat → ClassId} {dI : Nat → Nat → Nat} {ca : Nat → ClassId} {B : jF} {base : Nat} {G0 G : jT} {E : List (Nat × Nat)} {H0 : Heap} {zc zs : Nat} {L : List jPin} {M : List jCt} {I : List jIv} {a a0 k k0 n n0 index : Nat} {tys : List (ClassId × FieldType)} {own : String} {P P0 : Nat → Int32 → Prop} {cA : ClassId}
theorem j7_acopyX (hexec : p.tables.exec = Jvm.exec) (hb : c.code = cc) (hml : c.maxLocals = ls.size) (hown : s.vm.findClass own = some m.cls) (hlink : (Cond.methodLink own index arraycopyName).before args s = true) (hnat : (Cond.native arraycopyName).before args s = true) (hstat : (Cond.static arraycopyName).before args s = true) (hini : (Cond.initialized "java/lang/System").before args s = true)
    (hK : va_K (dC, dI) vwCl tys s) (hh : jSt (dC, dI) B base G0 G E H0 zc zs L M I H locs) (hB : jBok B) (hBk : ∀ n G a H, B k n G a H ↔ jAr (dC, dI) cA P n a H) (hBk0 : ∀ n G a H, B k0 n G a H ↔ jAr (dC, dI) cA P0 n a H) (t0 : Nat) (ht : tys[t0]? = some (cA, .int)) (hk : k < 1000) (hk0 : k0 < 1000) (hk2 : 18 ≤ k) (hE : E.contains (k, 0) = true)
    (os od : Nat) {kk0 kk1 : Nat} {cB0 cB : ClassId} {f g : Nat → Int32} (hos : M[os]? = some (a0, kk0, n0, cB0, f)) (hod : M[od]? = some (a, kk1, n, cB, g)) {M1 : List jCt} (js : List Nat) (hjs : js.map (fun i => M[i]?) = M1.map some) (hM : M1.all (fun q => !(q.2.1 == k)) = true) (hI : I.all (fun q => !(q.1.contains (k, 0))) = true) (ha0 : G a0 = some (k0, n0)) (ha : G a = some (k, n))
    {sp dp w : Int32} {x y z : Int} (hx : sp.toInt = x) (hy : dp.toInt = y) (hz : w.toInt = z) (h1 : 0 ≤ x ∧ 0 ≤ y ∧ 0 ≤ z ∧ x + z ≤ n0 ∧ y + z ≤ n) (hP : ∀ (i : Nat) (v : Int32), P0 (x.toNat + i) v → P (y.toNat + i) v)
    (hframes : 1 ≤ R.frames) (hlocals : (rest.map fun v => v.category).sum + (nativeFrameWords "java/lang/System" "arraycopy" 5 + 11) ≤ R.locals) (hdg : decode cc pc = .ok (.invokestatic index, 3))
    (kk : ∀ (H1 : Heap) (locs1 : List Loc) (g1 : Nat → Int32), (∀ j : Int, y ≤ j → j < y + z → jSo g1 j = jSo f (x + (j - y))) → (∀ j : Int, 0 ≤ j → j < n → (j < y ∨ y + z ≤ j) → jSo g1 j = jSo g j) → (∀ q, q ≠ a → H1[q]? = H[q]?) → jSt (dC, dI) B base G0 G E H0 zc zs L ((a, k, n, cA, g1) :: M1) I H1 locs1 → W p l e R s m args below meth c H1 locs1 cells slots Q (F0 m (pc + 3) ls rest)) : W p l e R s m args below meth c H locs cells slots Q (F0 m pc ls (.int w :: .int dp :: .ref a :: .int sp :: .ref a0 :: rest)) := by
  obtain ⟨q1, q2, q3, q4, q5⟩ := h1
  obtain ⟨f', f1, f2⟩ := hh.ar hBk0 hk0 ha0
  obtain ⟨g', g1, g2⟩ := hh.ar hBk hk ha
  obtain ⟨-, -, -, wf⟩ := hh.2.2.2.2.2.2.2.1 _ (List.mem_of_getElem? hos)
  obtain ⟨-, -, -, wg⟩ := hh.2.2.2.2.2.2.2.1 _ (List.mem_of_getElem? hod)
  have hh1 : jSt (dC, dI) B base G0 G E H0 zc zs L M1 I H locs := by
    obtain ⟨e1, e2, e3, e4, e5, e6, e7, e8, e9⟩ := hh
    exact ⟨e1, e2, e3, e4, e5, e6, e7, e8.sub js hjs, e9⟩
  have s0 : ¬ sp < 0 := jb_n0 hx q1
  have d0 : ¬ dp < 0 := jb_n0 hy q2
  have w0 : ¬ w < 0 := jb_n0 hz q3
  have es : sp.toNatClampNeg = x.toNat := jb_cl hx q1
  have ed : dp.toNatClampNeg = y.toNat := jb_cl hy q2
  have ew : w.toNatClampNeg = z.toNat := jb_cl hz q3
  have h4 : sp.toNatClampNeg + w.toNatClampNeg ≤ n0 := by rw [es, ew]; omega
  have c0 : H[a0]? = some (vp_cell cA (n0, .inl f')) := f1
  have c1 : H[a]? = some (vp_cell cA (n, .inl g')) := g1
  intro T hT X
  obtain ⟨-, k9, hk9, cm9, hkk9⟩ := (hK.2 t0 _ ht).1 n0 (fun j => .int (f' j))
  obtain ⟨-, k8, hk8, cm8, hkk8⟩ := (hK.2 t0 _ ht).1 n (fun j => .int (g' j))
  obtain ⟨vm', X', step⟩ := X.arraycopy hexec hown hlink hnat hstat hini (src := a0) (dst := a) (cs := vp_cell cA (n0, .inl f')) (cd := vp_cell cA (n, .inl g')) (srcPos := sp) (destPos := dp) (n := w) (by rw [hT]; exact c0) (by rw [hT]; exact c1)
    (fun _ h => by cases h) (fun _ h => by cases h) (fun h => by cases h) (fun h => by cases h) hk9 hk8 hkk9 hkk8 (by simp [refKind]) s0 d0 w0
    (by rw [hx, hz]; show ¬ _ > ((arrV cA n0 (fun j => .int (f' j))).slots.size : Int); rw [arrV_size]; omega)
    (by rw [hy, hz]; show ¬ _ > ((arrV cA n (fun j => .int (g' j))).slots.size : Int); rw [arrV_size]; omega)
    (fun vm₁ _ i hi => by
      have e9 : (vp_cell cA (n0, .inl f')).slots.getD (sp.toNatClampNeg + i) .null = .int (f' (sp.toNatClampNeg + i)) := by
        show (arrV cA n0 (fun j => .int (f' j))).slots.getD _ _ = _
        rw [Array.getD_eq_getD_getElem?, arrV_read _ _ (by omega)]
        rfl
      rw [e9]
      exact ⟨rfl, trivial⟩)
    (g := F0 m pc ls (.int w :: .int dp :: .ref a :: .int sp :: .ref a0 :: rest)) rfl (by rw [hml]) (rest := rest) rfl (by rw [hb]; exact hdg) hframes (by show 2 * 0 + _ + _ ≤ _; omega)
  have e1 : copied (vp_cell cA (n0, .inl f')) (vp_cell cA (n, .inl g')) sp dp w = vp_cell cA (n, .inl (va_cpy f' g' sp.toNatClampNeg dp.toNatClampNeg w.toNatClampNeg)) := va_copied (fun z => .int z) cA cA f' g' h4
  rw [e1] at X' step
  have hl : a < H.size := (Array.getElem?_eq_some_iff.mp c1).1
  have hheap : ((T.setVm vm').setCell a (vp_cell cA (n, .inl (va_cpy f' g' sp.toNatClampNeg dp.toNatClampNeg w.toNatClampNeg)))).heap = H.setIfInBounds a (vp_cell cA (n, .inl (va_cpy f' g' sp.toNatClampNeg dp.toNatClampNeg w.toNatClampNeg))) := by rw [← hT]; rfl
  have oq : ∀ q : Nat, q ≠ a → (H.setIfInBounds a (vp_cell cA (n, .inl (va_cpy f' g' sp.toNatClampNeg dp.toNatClampNeg w.toNatClampNeg))))[q]? = H[q]? := fun q hq => by simp [Array.getElem?_setIfInBounds, Ne.symm hq]
  have ha1 : (H.setIfInBounds a (vp_cell cA (n, .inl (va_cpy f' g' sp.toNatClampNeg dp.toNatClampNeg w.toNatClampNeg))))[a]? = some (vp_cell cA (n, .inl (va_cpy f' g' sp.toNatClampNeg dp.toNatClampNeg w.toNatClampNeg))) := by simp [Array.getElem?_setIfInBounds, hl]
  have hsz : (H.setIfInBounds a (vp_cell cA (n, .inl (va_cpy f' g' sp.toNatClampNeg dp.toNatClampNeg w.toNatClampNeg)))).size = H.size := by simp
  obtain ⟨t, a1, b1⟩ := kk _ _ (va_cpy f' g' sp.toNatClampNeg dp.toNatClampNeg w.toNatClampNeg) (fun j j1 j2 => by
      show (va_cpy f' g' sp.toNatClampNeg dp.toNatClampNeg w.toNatClampNeg j.toNat).toInt = (f (x + (j - y)).toNat).toInt
      have e9 : f (x + (j - y)).toNat = f' (x + (j - y)).toNat := jCt_eq (n := n0) wf f1 (j := (x + (j - y)).toNat) (by omega)
      rw [e9]
      unfold va_cpy
      rw [if_pos (by omega), show sp.toNatClampNeg + (j.toNat - dp.toNatClampNeg) = (x + (j - y)).toNat by omega]) (fun j j1 j2 j3 => by
      show (va_cpy f' g' sp.toNatClampNeg dp.toNatClampNeg w.toNatClampNeg j.toNat).toInt = (g j.toNat).toInt
      have e9 : g j.toNat = g' j.toNat := jCt_eq (n := n) wg g1 (j := j.toNat) (by omega)
      rw [e9]
      unfold va_cpy
      rw [if_neg (by omega)]) oq ((hh1.arr hB ha hk hk2 hE hM hI hsz oq (jTot_set hsz c1 ha1 (by rw [vp_cell_i, vp_cell_i, arrV_size, arrV_size]) oq) (fun q hq => by
      rcases List.mem_append.mp hq with h | h
      · exact hh.1.2.2 q h
      · obtain ⟨z9, -, hz9⟩ := List.mem_map.mp h
        rw [← hz9]
        exact (hh.ab ha).1) ((hBk _ _ _ _).mpr ⟨_, ha1, fun j hj => by
      show P j (va_cpy f' g' sp.toNatClampNeg dp.toNatClampNeg w.toNatClampNeg j)
      unfold va_cpy
      split
      · rename_i hc
        have h9 := f2 (sp.toNatClampNeg + (j - dp.toNatClampNeg)) (by omega)
        have e9 : dp.toNatClampNeg + (j - dp.toNatClampNeg) = j := by omega
        have h8 := hP (j - dp.toNatClampNeg) (f' (sp.toNatClampNeg + (j - dp.toNatClampNeg)))
        rw [← es, ← ed, e9] at h8
        exact h8 h9
      · exact g2 j hj⟩)).moreM (M1 := [(a, k, n, cA, va_cpy f' g' sp.toNatClampNeg dp.toNatClampNeg w.toNatClampNeg)]) (fun q hq => by
      rw [List.mem_singleton.mp hq]
      exact ⟨ha, hk2, hk, ha1⟩)) _ hheap X'
  exact ⟨t, step t a1, b1⟩
end J93
-- texts alike, a part of a text exchanged
theorem jdBd {s e n z n1 r : Int} {P Q W : Prop} (h0 : 0 ≤ n) (h1 : n ≤ 1500) (h : (r = 1 ∧ (0 ≤ s ∧ s ≤ e ∧ e ≤ n ∧ 0 ≤ z ∧ z ≤ 1500 ∧ s + z + (n - e) ≤ 1500) ∧ n1 = s + z + (n - e) ∧ P) ∨ (r = 0 ∧ Q ∧ n1 = n ∧ W)) : 0 ≤ n1 ∧ n1 ≤ 1500 := by
  rcases h with ⟨-, b, d, -⟩ | ⟨-, -, d, -⟩
  · omega
  · omega
end
