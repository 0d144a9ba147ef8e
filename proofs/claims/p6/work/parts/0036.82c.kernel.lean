section
theorem dX13_declare_0 : decode cX13_declare 0 = .ok (.aload_n 0, 1) := by decide +kernel
theorem dX13_declare_1 : decode cX13_declare 1 = .ok (.aload_n 0, 1) := by decide +kernel
theorem dX13_declare_2 : decode cX13_declare 2 = .ok (.getfield 291, 3) := by decide +kernel
theorem dX13_declare_5 : decode cX13_declare 5 = .ok (.invokevirtual 324, 3) := by decide +kernel
theorem dX13_declare_8 : decode cX13_declare 8 = .ok (.iload_n 1, 1) := by decide +kernel
theorem dX13_declare_9 : decode cX13_declare 9 = .ok (.iconst 1, 1) := by decide +kernel
theorem dX13_declare_10 : decode cX13_declare 10 = .ok (.if_icmp .gt 82, 3) := by decide +kernel
theorem dX13_declare_13 : decode cX13_declare 13 = .ok (.aload_n 0, 1) := by decide +kernel
theorem dX13_declare_14 : decode cX13_declare 14 = .ok (.getfield 109, 3) := by decide +kernel
theorem dX13_declare_17 : decode cX13_declare 17 = .ok (.bipush 16, 2) := by decide +kernel
theorem dX13_declare_19 : decode cX13_declare 19 = .ok (.if_icmp .ne 9, 3) := by decide +kernel
theorem dX13_declare_22 : decode cX13_declare 22 = .ok (.aload_n 0, 1) := by decide +kernel
theorem dX13_declare_23 : decode cX13_declare 23 = .ok (.bipush 9, 2) := by decide +kernel
theorem dX13_declare_25 : decode cX13_declare 25 = .ok (.invokevirtual 236, 3) := by decide +kernel
theorem dX13_declare_28 : decode cX13_declare 28 = .ok (.aload_n 0, 1) := by decide +kernel
theorem dX13_declare_29 : decode cX13_declare 29 = .ok (.getfield 221, 3) := by decide +kernel
theorem dX13_declare_32 : decode cX13_declare 32 = .ok (.ifCond .le 4, 3) := by decide +kernel
theorem dX13_declare_35 : decode cX13_declare 35 = .ok (.return_, 1) := by decide +kernel
theorem dX13_declare_36 : decode cX13_declare 36 = .ok (.aload_n 0, 1) := by decide +kernel
theorem dX13_declare_37 : decode cX13_declare 37 = .ok (.getfield 37, 3) := by decide +kernel
theorem dX13_declare_40 : decode cX13_declare 40 = .ok (.aload_n 0, 1) := by decide +kernel
theorem dX13_declare_41 : decode cX13_declare 41 = .ok (.getfield 109, 3) := by decide +kernel
theorem dX13_declare_44 : decode cX13_declare 44 = .ok (.aload_n 0, 1) := by decide +kernel
theorem dX13_declare_45 : decode cX13_declare 45 = .ok (.getfield 291, 3) := by decide +kernel
theorem dX13_declare_48 : decode cX13_declare 48 = .ok (.iastore, 1) := by decide +kernel
theorem dX13_declare_49 : decode cX13_declare 49 = .ok (.aload_n 0, 1) := by decide +kernel
theorem dX13_declare_50 : decode cX13_declare 50 = .ok (.getfield 40, 3) := by decide +kernel
theorem dX13_declare_53 : decode cX13_declare 53 = .ok (.aload_n 0, 1) := by decide +kernel
theorem dX13_declare_54 : decode cX13_declare 54 = .ok (.getfield 109, 3) := by decide +kernel
theorem dX13_declare_57 : decode cX13_declare 57 = .ok (.iload_n 1, 1) := by decide +kernel
theorem dX13_declare_58 : decode cX13_declare 58 = .ok (.iconst 1, 1) := by decide +kernel
theorem dX13_declare_59 : decode cX13_declare 59 = .ok (.if_icmp .ne 7, 3) := by decide +kernel
theorem dX13_declare_62 : decode cX13_declare 62 = .ok (.iconst 1, 1) := by decide +kernel
theorem dX13_declare_63 : decode cX13_declare 63 = .ok (.goto 4, 3) := by decide +kernel
theorem dX13_declare_66 : decode cX13_declare 66 = .ok (.iconst 0, 1) := by decide +kernel
theorem dX13_declare_67 : decode cX13_declare 67 = .ok (.bastore, 1) := by decide +kernel
theorem dX13_declare_68 : decode cX13_declare 68 = .ok (.aload_n 0, 1) := by decide +kernel
theorem dX13_declare_69 : decode cX13_declare 69 = .ok (.getfield 44, 3) := by decide +kernel
theorem dX13_declare_72 : decode cX13_declare 72 = .ok (.aload_n 0, 1) := by decide +kernel
theorem dX13_declare_73 : decode cX13_declare 73 = .ok (.getfield 109, 3) := by decide +kernel
theorem dX13_declare_76 : decode cX13_declare 76 = .ok (.aload_n 0, 1) := by decide +kernel
theorem dX13_declare_77 : decode cX13_declare 77 = .ok (.getfield 300, 3) := by decide +kernel
theorem dX13_declare_80 : decode cX13_declare 80 = .ok (.iastore, 1) := by decide +kernel
theorem dX13_declare_81 : decode cX13_declare 81 = .ok (.aload_n 0, 1) := by decide +kernel
theorem dX13_declare_82 : decode cX13_declare 82 = .ok (.dup, 1) := by decide +kernel
theorem dX13_declare_83 : decode cX13_declare 83 = .ok (.getfield 109, 3) := by decide +kernel
theorem dX13_declare_86 : decode cX13_declare 86 = .ok (.iconst 1, 1) := by decide +kernel
theorem dX13_declare_87 : decode cX13_declare 87 = .ok (.iadd, 1) := by decide +kernel
theorem dX13_declare_88 : decode cX13_declare 88 = .ok (.putfield 109, 3) := by decide +kernel
theorem dX13_declare_91 : decode cX13_declare 91 = .ok (.return_, 1) := by decide +kernel
theorem dX13_declare_92 : decode cX13_declare 92 = .ok (.aload_n 0, 1) := by decide +kernel
theorem dX13_declare_93 : decode cX13_declare 93 = .ok (.aload_n 0, 1) := by decide +kernel
theorem dX13_declare_94 : decode cX13_declare 94 = .ok (.getfield 294, 3) := by decide +kernel
theorem dX13_declare_97 : decode cX13_declare 97 = .ok (.invokevirtual 249, 3) := by decide +kernel
theorem dX13_declare_100 : decode cX13_declare 100 = .ok (.istore_n 2, 1) := by decide +kernel
theorem dX13_declare_101 : decode cX13_declare 101 = .ok (.aload_n 0, 1) := by decide +kernel
theorem dX13_declare_102 : decode cX13_declare 102 = .ok (.getfield 221, 3) := by decide +kernel
theorem dX13_declare_105 : decode cX13_declare 105 = .ok (.ifCond .ne 33, 3) := by decide +kernel
theorem dX13_declare_108 : decode cX13_declare 108 = .ok (.aload_n 0, 1) := by decide +kernel
theorem dX13_declare_109 : decode cX13_declare 109 = .ok (.iload_n 2, 1) := by decide +kernel
theorem dX13_declare_110 : decode cX13_declare 110 = .ok (.invokevirtual 259, 3) := by decide +kernel
theorem dX13_declare_113 : decode cX13_declare 113 = .ok (.bipush 80, 2) := by decide +kernel
theorem dX13_declare_115 : decode cX13_declare 115 = .ok (.if_icmp .gt 17, 3) := by decide +kernel
theorem dX13_declare_118 : decode cX13_declare 118 = .ok (.iload_n 1, 1) := by decide +kernel
theorem dX13_declare_119 : decode cX13_declare 119 = .ok (.iconst 2, 1) := by decide +kernel
theorem dX13_declare_120 : decode cX13_declare 120 = .ok (.if_icmp .ne 18, 3) := by decide +kernel
theorem dX13_declare_123 : decode cX13_declare 123 = .ok (.aload_n 0, 1) := by decide +kernel
theorem dX13_declare_124 : decode cX13_declare 124 = .ok (.getfield 112, 3) := by decide +kernel
theorem dX13_declare_127 : decode cX13_declare 127 = .ok (.bipush 16, 2) := by decide +kernel
theorem dX13_declare_129 : decode cX13_declare 129 = .ok (.if_icmp .ne 9, 3) := by decide +kernel
theorem dX13_declare_132 : decode cX13_declare 132 = .ok (.aload_n 0, 1) := by decide +kernel
theorem dX13_declare_133 : decode cX13_declare 133 = .ok (.bipush 9, 2) := by decide +kernel
theorem dX13_declare_135 : decode cX13_declare 135 = .ok (.invokevirtual 236, 3) := by decide +kernel
theorem dX13_declare_138 : decode cX13_declare 138 = .ok (.aload_n 0, 1) := by decide +kernel
theorem dX13_declare_139 : decode cX13_declare 139 = .ok (.getfield 221, 3) := by decide +kernel
theorem dX13_declare_142 : decode cX13_declare 142 = .ok (.ifCond .le 4, 3) := by decide +kernel
theorem dX13_declare_145 : decode cX13_declare 145 = .ok (.return_, 1) := by decide +kernel
theorem dX13_declare_146 : decode cX13_declare 146 = .ok (.iload_n 1, 1) := by decide +kernel
theorem dX13_declare_147 : decode cX13_declare 147 = .ok (.iconst 2, 1) := by decide +kernel
theorem dX13_declare_148 : decode cX13_declare 148 = .ok (.if_icmp .ne 13, 3) := by decide +kernel
theorem dX13_declare_151 : decode cX13_declare 151 = .ok (.aload_n 0, 1) := by decide +kernel
theorem dX13_declare_152 : decode cX13_declare 152 = .ok (.aload_n 0, 1) := by decide +kernel
theorem dX13_declare_153 : decode cX13_declare 153 = .ok (.getfield 291, 3) := by decide +kernel
theorem dX13_declare_156 : decode cX13_declare 156 = .ok (.iload_n 2, 1) := by decide +kernel
theorem dX13_declare_157 : decode cX13_declare 157 = .ok (.invokevirtual 327, 3) := by decide +kernel
theorem dX13_declare_160 : decode cX13_declare 160 = .ok (.return_, 1) := by decide +kernel
theorem dX13_declare_161 : decode cX13_declare 161 = .ok (.aload_n 0, 1) := by decide +kernel
theorem dX13_declare_162 : decode cX13_declare 162 = .ok (.iconst 1, 1) := by decide +kernel
theorem dX13_declare_163 : decode cX13_declare 163 = .ok (.putfield 115, 3) := by decide +kernel
theorem dX13_declare_166 : decode cX13_declare 166 = .ok (.aload_n 0, 1) := by decide +kernel
theorem dX13_declare_167 : decode cX13_declare 167 = .ok (.aload_n 0, 1) := by decide +kernel
theorem dX13_declare_168 : decode cX13_declare 168 = .ok (.getfield 291, 3) := by decide +kernel
theorem dX13_declare_171 : decode cX13_declare 171 = .ok (.putfield 330, 3) := by decide +kernel
theorem dX13_declare_174 : decode cX13_declare 174 = .ok (.aload_n 0, 1) := by decide +kernel
theorem dX13_declare_175 : decode cX13_declare 175 = .ok (.iload_n 2, 1) := by decide +kernel
theorem dX13_declare_176 : decode cX13_declare 176 = .ok (.putfield 333, 3) := by decide +kernel
theorem dX13_declare_179 : decode cX13_declare 179 = .ok (.aload_n 0, 1) := by decide +kernel
theorem dX13_declare_180 : decode cX13_declare 180 = .ok (.iconst 1, 1) := by decide +kernel
theorem dX13_declare_181 : decode cX13_declare 181 = .ok (.putfield 119, 3) := by decide +kernel
theorem dX13_declare_184 : decode cX13_declare 184 = .ok (.aload_n 0, 1) := by decide +kernel
theorem dX13_declare_185 : decode cX13_declare 185 = .ok (.getfield 53, 3) := by decide +kernel
theorem dX13_declare_188 : decode cX13_declare 188 = .ok (.iconst 0, 1) := by decide +kernel
theorem dX13_declare_189 : decode cX13_declare 189 = .ok (.iload_n 2, 1) := by decide +kernel
theorem dX13_declare_190 : decode cX13_declare 190 = .ok (.iastore, 1) := by decide +kernel
theorem dX13_declare_191 : decode cX13_declare 191 = .ok (.aload_n 0, 1) := by decide +kernel
theorem dX13_declare_192 : decode cX13_declare 192 = .ok (.getfield 56, 3) := by decide +kernel
theorem dX13_declare_195 : decode cX13_declare 195 = .ok (.iconst 0, 1) := by decide +kernel
theorem dX13_declare_196 : decode cX13_declare 196 = .ok (.iconst 0, 1) := by decide +kernel
theorem dX13_declare_197 : decode cX13_declare 197 = .ok (.iastore, 1) := by decide +kernel
theorem dX13_declare_198 : decode cX13_declare 198 = .ok (.aload_n 0, 1) := by decide +kernel
theorem dX13_declare_199 : decode cX13_declare 199 = .ok (.getfield 62, 3) := by decide +kernel
theorem dX13_declare_202 : decode cX13_declare 202 = .ok (.iconst 0, 1) := by decide +kernel
theorem dX13_declare_203 : decode cX13_declare 203 = .ok (.iconst 0, 1) := by decide +kernel
theorem dX13_declare_204 : decode cX13_declare 204 = .ok (.iastore, 1) := by decide +kernel
theorem dX13_declare_205 : decode cX13_declare 205 = .ok (.return_, 1) := by decide +kernel
theorem dX13_intro_0 : decode cX13_intro 0 = .ok (.iload_n 2, 1) := by decide +kernel
theorem dX13_intro_1 : decode cX13_intro 1 = .ok (.ifCond .ne 58, 3) := by decide +kernel
theorem dX13_intro_4 : decode cX13_intro 4 = .ok (.aload_n 0, 1) := by decide +kernel
theorem dX13_intro_5 : decode cX13_intro 5 = .ok (.getfield 62, 3) := by decide +kernel
theorem dX13_intro_8 : decode cX13_intro 8 = .ok (.iconst 0, 1) := by decide +kernel
theorem dX13_intro_9 : decode cX13_intro 9 = .ok (.iaload, 1) := by decide +kernel
theorem dX13_intro_10 : decode cX13_intro 10 = .ok (.bipush 8, 2) := by decide +kernel
theorem dX13_intro_12 : decode cX13_intro 12 = .ok (.if_icmp .ne 9, 3) := by decide +kernel
theorem dX13_intro_15 : decode cX13_intro 15 = .ok (.aload_n 0, 1) := by decide +kernel
theorem dX13_intro_16 : decode cX13_intro 16 = .ok (.bipush 9, 2) := by decide +kernel
theorem dX13_intro_18 : decode cX13_intro 18 = .ok (.invokevirtual 236, 3) := by decide +kernel
theorem dX13_intro_21 : decode cX13_intro 21 = .ok (.aload_n 0, 1) := by decide +kernel
theorem dX13_intro_22 : decode cX13_intro 22 = .ok (.getfield 221, 3) := by decide +kernel
theorem dX13_intro_25 : decode cX13_intro 25 = .ok (.ifCond .le 4, 3) := by decide +kernel
theorem dX13_intro_28 : decode cX13_intro 28 = .ok (.return_, 1) := by decide +kernel
theorem dX13_intro_29 : decode cX13_intro 29 = .ok (.aload_n 0, 1) := by decide +kernel
theorem dX13_intro_30 : decode cX13_intro 30 = .ok (.iconst 0, 1) := by decide +kernel
theorem dX13_intro_31 : decode cX13_intro 31 = .ok (.aload_n 0, 1) := by decide +kernel
theorem dX13_intro_32 : decode cX13_intro 32 = .ok (.getfield 291, 3) := by decide +kernel
theorem dX13_intro_35 : decode cX13_intro 35 = .ok (.aload_n 0, 1) := by decide +kernel
theorem dX13_intro_36 : decode cX13_intro 36 = .ok (.getfield 19, 3) := by decide +kernel
theorem dX13_intro_39 : decode cX13_intro 39 = .ok (.iload_n 1, 1) := by decide +kernel
theorem dX13_intro_40 : decode cX13_intro 40 = .ok (.iaload, 1) := by decide +kernel
theorem dX13_intro_41 : decode cX13_intro 41 = .ok (.invokevirtual 365, 3) := by decide +kernel
theorem dX13_intro_44 : decode cX13_intro 44 = .ok (.aload_n 0, 1) := by decide +kernel
theorem dX13_intro_45 : decode cX13_intro 45 = .ok (.getfield 53, 3) := by decide +kernel
theorem dX13_intro_48 : decode cX13_intro 48 = .ok (.iconst 0, 1) := by decide +kernel
theorem dX13_intro_49 : decode cX13_intro 49 = .ok (.aload_n 0, 1) := by decide +kernel
theorem dX13_intro_50 : decode cX13_intro 50 = .ok (.getfield 22, 3) := by decide +kernel
theorem dX13_intro_53 : decode cX13_intro 53 = .ok (.iload_n 1, 1) := by decide +kernel
theorem dX13_intro_54 : decode cX13_intro 54 = .ok (.iaload, 1) := by decide +kernel
theorem dX13_intro_55 : decode cX13_intro 55 = .ok (.iastore, 1) := by decide +kernel
theorem dX13_intro_56 : decode cX13_intro 56 = .ok (.goto 101, 3) := by decide +kernel
theorem dX13_intro_59 : decode cX13_intro 59 = .ok (.iload_n 2, 1) := by decide +kernel
theorem dX13_intro_60 : decode cX13_intro 60 = .ok (.iconst 4, 1) := by decide +kernel
theorem dX13_intro_61 : decode cX13_intro 61 = .ok (.if_icmp .ne 90, 3) := by decide +kernel
theorem dX13_intro_64 : decode cX13_intro 64 = .ok (.aload_n 0, 1) := by decide +kernel
theorem dX13_intro_65 : decode cX13_intro 65 = .ok (.getfield 56, 3) := by decide +kernel
theorem dX13_intro_68 : decode cX13_intro 68 = .ok (.iconst 0, 1) := by decide +kernel
theorem dX13_intro_69 : decode cX13_intro 69 = .ok (.iaload, 1) := by decide +kernel
theorem dX13_intro_70 : decode cX13_intro 70 = .ok (.bipush 6, 2) := by decide +kernel
theorem dX13_intro_72 : decode cX13_intro 72 = .ok (.if_icmp .ne 9, 3) := by decide +kernel
theorem dX13_intro_75 : decode cX13_intro 75 = .ok (.aload_n 0, 1) := by decide +kernel
theorem dX13_intro_76 : decode cX13_intro 76 = .ok (.bipush 9, 2) := by decide +kernel
theorem dX13_intro_78 : decode cX13_intro 78 = .ok (.invokevirtual 236, 3) := by decide +kernel
theorem dX13_intro_81 : decode cX13_intro 81 = .ok (.aload_n 0, 1) := by decide +kernel
theorem dX13_intro_82 : decode cX13_intro 82 = .ok (.getfield 221, 3) := by decide +kernel
theorem dX13_intro_85 : decode cX13_intro 85 = .ok (.ifCond .le 4, 3) := by decide +kernel
theorem dX13_intro_88 : decode cX13_intro 88 = .ok (.return_, 1) := by decide +kernel
theorem dX13_intro_89 : decode cX13_intro 89 = .ok (.aload_n 0, 1) := by decide +kernel
theorem dX13_intro_90 : decode cX13_intro 90 = .ok (.iload_n 1, 1) := by decide +kernel
theorem dX13_intro_91 : decode cX13_intro 91 = .ok (.aload_n 0, 1) := by decide +kernel
theorem dX13_intro_92 : decode cX13_intro 92 = .ok (.bipush 9, 2) := by decide +kernel
theorem dX13_intro_94 : decode cX13_intro 94 = .ok (.aload_n 0, 1) := by decide +kernel
theorem dX13_intro_95 : decode cX13_intro 95 = .ok (.getfield 291, 3) := by decide +kernel
theorem dX13_intro_98 : decode cX13_intro 98 = .ok (.iconst 0, 1) := by decide +kernel
theorem dX13_intro_99 : decode cX13_intro 99 = .ok (.iconst 0, 1) := by decide +kernel
theorem dX13_intro_100 : decode cX13_intro 100 = .ok (.iconst 0, 1) := by decide +kernel
theorem dX13_intro_101 : decode cX13_intro 101 = .ok (.invokevirtual 197, 3) := by decide +kernel
theorem dX13_intro_104 : decode cX13_intro 104 = .ok (.invokevirtual 369, 3) := by decide +kernel
theorem dX13_intro_107 : decode cX13_intro 107 = .ok (.istore_n 3, 1) := by decide +kernel
theorem dX13_intro_108 : decode cX13_intro 108 = .ok (.aload_n 0, 1) := by decide +kernel
theorem dX13_intro_109 : decode cX13_intro 109 = .ok (.getfield 221, 3) := by decide +kernel
theorem dX13_intro_112 : decode cX13_intro 112 = .ok (.ifCond .le 4, 3) := by decide +kernel
theorem dX13_intro_115 : decode cX13_intro 115 = .ok (.return_, 1) := by decide +kernel
theorem dX13_intro_116 : decode cX13_intro 116 = .ok (.aload_n 0, 1) := by decide +kernel
theorem dX13_intro_117 : decode cX13_intro 117 = .ok (.getfield 59, 3) := by decide +kernel
theorem dX13_intro_120 : decode cX13_intro 120 = .ok (.aload_n 0, 1) := by decide +kernel
theorem dX13_intro_121 : decode cX13_intro 121 = .ok (.getfield 56, 3) := by decide +kernel
theorem dX13_intro_124 : decode cX13_intro 124 = .ok (.iconst 0, 1) := by decide +kernel
theorem dX13_intro_125 : decode cX13_intro 125 = .ok (.iaload, 1) := by decide +kernel
theorem dX13_intro_126 : decode cX13_intro 126 = .ok (.aload_n 0, 1) := by decide +kernel
theorem dX13_intro_127 : decode cX13_intro 127 = .ok (.getfield 291, 3) := by decide +kernel
theorem dX13_intro_130 : decode cX13_intro 130 = .ok (.iastore, 1) := by decide +kernel
theorem dX13_intro_131 : decode cX13_intro 131 = .ok (.aload_n 0, 1) := by decide +kernel
theorem dX13_intro_132 : decode cX13_intro 132 = .ok (.getfield 56, 3) := by decide +kernel
theorem dX13_intro_135 : decode cX13_intro 135 = .ok (.iconst 0, 1) := by decide +kernel
theorem dX13_intro_136 : decode cX13_intro 136 = .ok (.dup2, 1) := by decide +kernel
theorem dX13_intro_137 : decode cX13_intro 137 = .ok (.iaload, 1) := by decide +kernel
theorem dX13_intro_138 : decode cX13_intro 138 = .ok (.iconst 1, 1) := by decide +kernel
theorem dX13_intro_139 : decode cX13_intro 139 = .ok (.iadd, 1) := by decide +kernel
theorem dX13_intro_140 : decode cX13_intro 140 = .ok (.iastore, 1) := by decide +kernel
theorem dX13_intro_141 : decode cX13_intro 141 = .ok (.aload_n 0, 1) := by decide +kernel
theorem dX13_intro_142 : decode cX13_intro 142 = .ok (.getfield 53, 3) := by decide +kernel
theorem dX13_intro_145 : decode cX13_intro 145 = .ok (.iconst 0, 1) := by decide +kernel
theorem dX13_intro_146 : decode cX13_intro 146 = .ok (.iload_n 3, 1) := by decide +kernel
theorem dX13_intro_147 : decode cX13_intro 147 = .ok (.iastore, 1) := by decide +kernel
theorem dX13_intro_148 : decode cX13_intro 148 = .ok (.goto 9, 3) := by decide +kernel
theorem dX13_intro_151 : decode cX13_intro 151 = .ok (.aload_n 0, 1) := by decide +kernel
theorem dX13_intro_152 : decode cX13_intro 152 = .ok (.bipush 8, 2) := by decide +kernel
theorem dX13_intro_154 : decode cX13_intro 154 = .ok (.invokevirtual 236, 3) := by decide +kernel
theorem dX13_intro_157 : decode cX13_intro 157 = .ok (.return_, 1) := by decide +kernel
theorem dX13_rewrite_0 : decode cX13_rewrite 0 = .ok (.aload_n 0, 1) := by decide +kernel
theorem dX13_rewrite_1 : decode cX13_rewrite 1 = .ok (.getfield 12, 3) := by decide +kernel
theorem dX13_rewrite_4 : decode cX13_rewrite 4 = .ok (.iload_n 1, 1) := by decide +kernel
theorem dX13_rewrite_5 : decode cX13_rewrite 5 = .ok (.iaload, 1) := by decide +kernel
theorem dX13_rewrite_6 : decode cX13_rewrite 6 = .ok (.bipush 6, 2) := by decide +kernel
theorem dX13_rewrite_8 : decode cX13_rewrite 8 = .ok (.if_icmp .eq 10, 3) := by decide +kernel
theorem dX13_rewrite_11 : decode cX13_rewrite 11 = .ok (.aload_n 0, 1) := by decide +kernel
theorem dX13_rewrite_12 : decode cX13_rewrite 12 = .ok (.bipush 8, 2) := by decide +kernel
theorem dX13_rewrite_14 : decode cX13_rewrite 14 = .ok (.invokevirtual 236, 3) := by decide +kernel
theorem dX13_rewrite_17 : decode cX13_rewrite 17 = .ok (.return_, 1) := by decide +kernel
theorem dX13_rewrite_18 : decode cX13_rewrite 18 = .ok (.aload_n 0, 1) := by decide +kernel
theorem dX13_rewrite_19 : decode cX13_rewrite 19 = .ok (.iload_n 2, 1) := by decide +kernel
theorem dX13_rewrite_20 : decode cX13_rewrite 20 = .ok (.aload_n 0, 1) := by decide +kernel
theorem dX13_rewrite_21 : decode cX13_rewrite 21 = .ok (.getfield 19, 3) := by decide +kernel
theorem dX13_rewrite_24 : decode cX13_rewrite 24 = .ok (.iload_n 1, 1) := by decide +kernel
theorem dX13_rewrite_25 : decode cX13_rewrite 25 = .ok (.iaload, 1) := by decide +kernel
theorem dX13_rewrite_26 : decode cX13_rewrite 26 = .ok (.invokevirtual 280, 3) := by decide +kernel
theorem dX13_rewrite_29 : decode cX13_rewrite 29 = .ok (.istore_n 3, 1) := by decide +kernel
theorem dX13_rewrite_30 : decode cX13_rewrite 30 = .ok (.iload_n 3, 1) := by decide +kernel
theorem dX13_rewrite_31 : decode cX13_rewrite 31 = .ok (.ifCond .ne 9, 3) := by decide +kernel
theorem dX13_rewrite_34 : decode cX13_rewrite 34 = .ok (.aload_n 0, 1) := by decide +kernel
theorem dX13_rewrite_35 : decode cX13_rewrite 35 = .ok (.bipush 8, 2) := by decide +kernel
theorem dX13_rewrite_37 : decode cX13_rewrite 37 = .ok (.invokevirtual 236, 3) := by decide +kernel
theorem dX13_rewrite_40 : decode cX13_rewrite 40 = .ok (.aload_n 0, 1) := by decide +kernel
theorem dX13_rewrite_41 : decode cX13_rewrite 41 = .ok (.iload_n 2, 1) := by decide +kernel
theorem dX13_rewrite_42 : decode cX13_rewrite 42 = .ok (.invokevirtual 259, 3) := by decide +kernel
theorem dX13_rewrite_45 : decode cX13_rewrite 45 = .ok (.iload_n 3, 1) := by decide +kernel
theorem dX13_rewrite_46 : decode cX13_rewrite 46 = .ok (.aload_n 0, 1) := by decide +kernel
theorem dX13_rewrite_47 : decode cX13_rewrite 47 = .ok (.aload_n 0, 1) := by decide +kernel
theorem dX13_rewrite_48 : decode cX13_rewrite 48 = .ok (.getfield 22, 3) := by decide +kernel
theorem dX13_rewrite_51 : decode cX13_rewrite 51 = .ok (.iload_n 1, 1) := by decide +kernel
theorem dX13_rewrite_52 : decode cX13_rewrite 52 = .ok (.iaload, 1) := by decide +kernel
theorem dX13_rewrite_53 : decode cX13_rewrite 53 = .ok (.invokevirtual 259, 3) := by decide +kernel
theorem dX13_rewrite_56 : decode cX13_rewrite 56 = .ok (.aload_n 0, 1) := by decide +kernel
theorem dX13_rewrite_57 : decode cX13_rewrite 57 = .ok (.aload_n 0, 1) := by decide +kernel
theorem dX13_rewrite_58 : decode cX13_rewrite 58 = .ok (.getfield 19, 3) := by decide +kernel
theorem dX13_rewrite_61 : decode cX13_rewrite 61 = .ok (.iload_n 1, 1) := by decide +kernel
theorem dX13_rewrite_62 : decode cX13_rewrite 62 = .ok (.iaload, 1) := by decide +kernel
theorem dX13_rewrite_63 : decode cX13_rewrite 63 = .ok (.invokevirtual 259, 3) := by decide +kernel
theorem dX13_rewrite_66 : decode cX13_rewrite 66 = .ok (.isub, 1) := by decide +kernel
theorem dX13_rewrite_67 : decode cX13_rewrite 67 = .ok (.imul, 1) := by decide +kernel
theorem dX13_rewrite_68 : decode cX13_rewrite 68 = .ok (.iadd, 1) := by decide +kernel
theorem dX13_rewrite_69 : decode cX13_rewrite 69 = .ok (.bipush 80, 2) := by decide +kernel
theorem dX13_rewrite_71 : decode cX13_rewrite 71 = .ok (.if_icmp .le 9, 3) := by decide +kernel
theorem dX13_rewrite_74 : decode cX13_rewrite 74 = .ok (.aload_n 0, 1) := by decide +kernel
theorem dX13_rewrite_75 : decode cX13_rewrite 75 = .ok (.bipush 9, 2) := by decide +kernel
theorem dX13_rewrite_77 : decode cX13_rewrite 77 = .ok (.invokevirtual 236, 3) := by decide +kernel
theorem dX13_rewrite_80 : decode cX13_rewrite 80 = .ok (.aload_n 0, 1) := by decide +kernel
theorem dX13_rewrite_81 : decode cX13_rewrite 81 = .ok (.getfield 221, 3) := by decide +kernel
theorem dX13_rewrite_84 : decode cX13_rewrite 84 = .ok (.ifCond .ne 26, 3) := by decide +kernel
theorem dX13_rewrite_87 : decode cX13_rewrite 87 = .ok (.aload_n 0, 1) := by decide +kernel
theorem dX13_rewrite_88 : decode cX13_rewrite 88 = .ok (.getfield 53, 3) := by decide +kernel
theorem dX13_rewrite_91 : decode cX13_rewrite 91 = .ok (.iconst 0, 1) := by decide +kernel
theorem dX13_rewrite_92 : decode cX13_rewrite 92 = .ok (.aload_n 0, 1) := by decide +kernel
theorem dX13_rewrite_93 : decode cX13_rewrite 93 = .ok (.iload_n 2, 1) := by decide +kernel
theorem dX13_rewrite_94 : decode cX13_rewrite 94 = .ok (.aload_n 0, 1) := by decide +kernel
theorem dX13_rewrite_95 : decode cX13_rewrite 95 = .ok (.getfield 19, 3) := by decide +kernel
theorem dX13_rewrite_98 : decode cX13_rewrite 98 = .ok (.iload_n 1, 1) := by decide +kernel
theorem dX13_rewrite_99 : decode cX13_rewrite 99 = .ok (.iaload, 1) := by decide +kernel
theorem dX13_rewrite_100 : decode cX13_rewrite 100 = .ok (.aload_n 0, 1) := by decide +kernel
theorem dX13_rewrite_101 : decode cX13_rewrite 101 = .ok (.getfield 22, 3) := by decide +kernel
theorem dX13_rewrite_104 : decode cX13_rewrite 104 = .ok (.iload_n 1, 1) := by decide +kernel
theorem dX13_rewrite_105 : decode cX13_rewrite 105 = .ok (.iaload, 1) := by decide +kernel
theorem dX13_rewrite_106 : decode cX13_rewrite 106 = .ok (.invokevirtual 283, 3) := by decide +kernel
theorem dX13_rewrite_109 : decode cX13_rewrite 109 = .ok (.iastore, 1) := by decide +kernel
theorem dX13_rewrite_110 : decode cX13_rewrite 110 = .ok (.return_, 1) := by decide +kernel
def EX13_declare : List (Nat × Nat) := [(15, 5), (15, 11), (15, 15), (15, 18), (15, 19), (15, 20), (15, 21), (15, 34), (15, 36), (103, 0), (150, 0), (151, 0), (152, 0), (153, 0), (154, 0), (158, 0), (159, 0), (160, 0), (161, 0), (163, 0), (165, 0)]
def EX13_intro : List (Nat × Nat) := [(15, 5), (15, 34), (150, 0), (151, 0), (152, 0), (153, 0), (154, 0), (158, 0), (159, 0), (161, 0), (162, 0), (163, 0), (169, 0)]
def EX13_rewrite : List (Nat × Nat) := [(15, 5), (15, 34), (150, 0), (151, 0), (152, 0), (153, 0), (154, 0), (161, 0)]
set_option maxHeartbeats 4000000 in
set_option maxRecDepth 20000 in
theorem uX13_declare (l : Launch) (dC : Nat → ClassId) (dI : Nat → Nat → Nat) (ca : Nat → ClassId) (base : Nat) (B : jF) (hB : jBok B) (hAp : jAp (dC, dI)) (hB15 : ∀ n G a H, B 15 n G a H ↔ jOb (dC, dI) 15 50 (F15 n G) a H) (hB103 : ∀ n G a H, B 103 n G a H ↔ jAr (dC, dI) (ca 3) (fun j z => (z = 0 ∨ z = 1)) n a H) (hB150 : ∀ n G a H, B 150 n G a H ↔ jAr (dC, dI) (ca 1) (fun j z => True) n a H) (hB151 : ∀ n G a H, B 151 n G a H ↔ jAr (dC, dI) (ca 1) (fun j z => True) n a H) (hB152 : ∀ n G a H, B 152 n G a H ↔ jAr (dC, dI) (ca 1) (fun j z => True) n a H) (hB153 : ∀ n G a H, B 153 n G a H ↔ jAr (dC, dI) (ca 1) (fun j z => True) n a H) (hB154 : ∀ n G a H, B 154 n G a H ↔ jAr (dC, dI) (ca 1) (fun j z => True) n a H) (hB158 : ∀ n G a H, B 158 n G a H ↔ jAr (dC, dI) (ca 1) (fun j z => 0 ≤ z.toInt ∧ z.toInt ≤ 6) n a H) (hB159 : ∀ n G a H, B 159 n G a H ↔ jAr (dC, dI) (ca 1) (fun j z => 0 ≤ z.toInt ∧ z.toInt ≤ 8) n a H) (hB160 : ∀ n G a H, B 160 n G a H ↔ jAr (dC, dI) (ca 1) (fun j z => 0 ≤ z.toInt ∧ z.toInt ≤ 119999) n a H) (hB161 : ∀ n G a H, B 161 n G a H ↔ jAr (dC, dI) (ca 1) (fun j z => 0 ≤ z.toInt ∧ z.toInt ≤ 119999) n a H) (hB163 : ∀ n G a H, B 163 n G a H ↔ jAr (dC, dI) (ca 1) (fun j z => 0 ≤ z.toInt ∧ z.toInt ≤ 1599) n a H) (hB165 : ∀ n G a H, B 165 n G a H ↔ jAr (dC, dI) (ca 1) (fun j z => 0 ≤ z.toInt ∧ z.toInt ≤ 3) n a H) (G0 : jT) (H0 : Heap) (r0 : Nat) (a1 : Int32) (pn : Int32) (pu : Int32) (py : Int32) (pb : Int32) (pf : Int32) (pg : Int32) (pp : Int32) (pl : Int32) (pr : Int32) (zf : Nat) (zg : Nat) (zh : Nat) (zp : Nat) (zs : Nat) (zn : Nat) (za : Nat) (zb : Nat) (zc : Nat) (zy : Nat) (lo : Int) (hi : Int) (ff : Nat → Int32) (fg : Nat → Int32) (fh : Nat → Int32) (fp : Nat → Int32) (C : jK) : Met l yX13_declare (jw yX13_declare cX13_declare 3 none) ({ frames := 1604, cells := 0, slots := 0, locals := 65223 }) (va_Pc [.ref r0, .int a1] (fun U => U.heap = H0 ∧ jX B base G0 [] H0 ∧ jG dC dI ca base U ∧ G0 r0 = some (15, 0) ∧ G0 zf = some (160, 16) ∧ G0 zg = some (161, 46) ∧ G0 zh = some (159, 46) ∧ G0 zp = some (162, 368) ∧ G0 zs = some (150, 120000) ∧ G0 zn = some (151, 120000) ∧ G0 za = some (152, 120000) ∧ G0 zb = some (153, 120000) ∧ G0 zc = some (154, 120000) ∧ G0 zy = some (165, 16) ∧ jP (dC, dI) G0 H0 [(r0, 15, 5, .int pn), (r0, 15, 34, .int pu), (r0, 15, 11, .int py), (r0, 15, 36, .int pb), (r0, 15, 15, .int pf), (r0, 15, 21, .int pg), (r0, 15, 18, .int pp), (r0, 15, 20, .int pl), (r0, 15, 42, .int pr), (r0, 15, 17, .ref zf), (r0, 15, 22, .ref zg), (r0, 15, 25, .ref zh), (r0, 15, 27, .ref zp), (r0, 15, 0, .ref zs), (r0, 15, 1, .ref zn), (r0, 15, 2, .ref za), (r0, 15, 3, .ref zb), (r0, 15, 4, .ref zc), (r0, 15, 14, .ref zy)] ∧ jMc (dC, dI) G0 H0 [(zf, 160, 16, ca 1, ff), (zg, 161, 46, ca 1, fg), (zh, 159, 46, ca 1, fh), (zp, 162, 368, ca 1, fp), (zs, 150, 120000, ca 1, C.s), (zn, 151, 120000, ca 1, C.n), (za, 152, 120000, ca 1, C.a), (zb, 153, 120000, ca 1, C.b), (zc, 154, 120000, ca 1, C.c), (zy, 165, 16, ca 1, C.y)] ∧ jKi C pn.toInt py.toInt pf.toInt pg.toInt pp.toInt pl.toInt ff fg fh fp ∧ (2 ≤ a1.toInt → jRw C 1500 12 lo pr.toInt hi) ∧ hi ≤ pn.toInt ∧ 0 ≤ lo ∧ lo ≤ hi ∧ pn.toInt + (hi - lo) ≤ 119900 ∧ pu.toInt = 0 ∧ pb.toInt = 0 ∧ 0 ≤ a1.toInt ∧ a1.toInt ≤ 3)) (va_Qv (S := Int32 × Int32 × Int32 × Int32 × Int32 × Int32 × Int32 × (Nat → Int32) × (Nat → Int32) × (Nat → Int32) × jK) (fun u => pn.toInt ≤ u.1.toInt ∧ u.1.toInt ≤ pn.toInt + (hi - lo) ∧ 0 ≤ u.2.1.toInt ∧ u.2.1.toInt ≤ 9 ∧ jKi u.2.2.2.2.2.2.2.2.2.2 u.1.toInt u.2.2.1.toInt u.2.2.2.1.toInt u.2.2.2.2.1.toInt u.2.2.2.2.2.1.toInt u.2.2.2.2.2.2.1.toInt u.2.2.2.2.2.2.2.1 u.2.2.2.2.2.2.2.2.1 u.2.2.2.2.2.2.2.2.2.1 fp) (fun u t => jRt (dC, dI) B base G0 EX13_declare H0 [(r0, 15, 5, .int u.1), (r0, 15, 34, .int u.2.1), (r0, 15, 11, .int u.2.2.1), (r0, 15, 15, .int u.2.2.2.1), (r0, 15, 21, .int u.2.2.2.2.1), (r0, 15, 18, .int u.2.2.2.2.2.1), (r0, 15, 20, .int u.2.2.2.2.2.2.1)] t.heap ∧ jMc (dC, dI) G0 t.heap [(zf, 160, 16, ca 1, u.2.2.2.2.2.2.2.1), (zg, 161, 46, ca 1, u.2.2.2.2.2.2.2.2.1), (zh, 159, 46, ca 1, u.2.2.2.2.2.2.2.2.2.1), (zs, 150, 120000, ca 1, u.2.2.2.2.2.2.2.2.2.2.s), (zn, 151, 120000, ca 1, u.2.2.2.2.2.2.2.2.2.2.n), (za, 152, 120000, ca 1, u.2.2.2.2.2.2.2.2.2.2.a), (zb, 153, 120000, ca 1, u.2.2.2.2.2.2.2.2.2.2.b), (zc, 154, 120000, ca 1, u.2.2.2.2.2.2.2.2.2.2.c), (zy, 165, 16, ca 1, u.2.2.2.2.2.2.2.2.2.2.y)]) (jA base)) 0 0 (jA base) := by
  refine Met.ofW (cc := cX13_declare) (maxL := 3) (ret := none) (by decide) rfl ?_
  intro p e s m args below meth c s₁ Bd hml hv
  obtain ⟨rfl, hH0, hX, hG, hg_r0, hg_zf, hg_zg, hg_zh, hg_zp, hg_zs, hg_zn, hg_za, hg_zb, hg_zc, hg_zy, hP0, hM0, hp0, hp1, hp2, hp3, hp4, hp5, hp6, hp7, hp8, hp9⟩ := hv
  have hK := hG.1
  have hx := Bd.exec
  have hb := Bd.bytes
  have hr := Bd.returns
  have hts := atoms_spec (ws := (jw yX13_declare cX13_declare 3 none)) Bd.pre
  have htw : ∀ w ∈ jWl, w.before _ s = true := fun w h => hts w (List.mem_cons_of_mem _ h)
  have hown : s.vm.findClass RX13 = some m.cls := findClass_of_methodNamed Bd.named
  have hlocks := Bd.notSynchronized
  obtain ⟨Q, hQ⟩ : ∃ Q, Q = MQ below (va_Qv (S := Int32 × Int32 × Int32 × Int32 × Int32 × Int32 × Int32 × (Nat → Int32) × (Nat → Int32) × (Nat → Int32) × jK) (fun u => pn.toInt ≤ u.1.toInt ∧ u.1.toInt ≤ pn.toInt + (hi - lo) ∧ 0 ≤ u.2.1.toInt ∧ u.2.1.toInt ≤ 9 ∧ jKi u.2.2.2.2.2.2.2.2.2.2 u.1.toInt u.2.2.1.toInt u.2.2.2.1.toInt u.2.2.2.2.1.toInt u.2.2.2.2.2.1.toInt u.2.2.2.2.2.2.1.toInt u.2.2.2.2.2.2.2.1 u.2.2.2.2.2.2.2.2.1 u.2.2.2.2.2.2.2.2.2.1 fp) (fun u t => jRt (dC, dI) B base G0 EX13_declare H0 [(r0, 15, 5, .int u.1), (r0, 15, 34, .int u.2.1), (r0, 15, 11, .int u.2.2.1), (r0, 15, 15, .int u.2.2.2.1), (r0, 15, 21, .int u.2.2.2.2.1), (r0, 15, 18, .int u.2.2.2.2.2.1), (r0, 15, 20, .int u.2.2.2.2.2.2.1)] t.heap ∧ jMc (dC, dI) G0 t.heap [(zf, 160, 16, ca 1, u.2.2.2.2.2.2.2.1), (zg, 161, 46, ca 1, u.2.2.2.2.2.2.2.2.1), (zh, 159, 46, ca 1, u.2.2.2.2.2.2.2.2.2.1), (zs, 150, 120000, ca 1, u.2.2.2.2.2.2.2.2.2.2.s), (zn, 151, 120000, ca 1, u.2.2.2.2.2.2.2.2.2.2.n), (za, 152, 120000, ca 1, u.2.2.2.2.2.2.2.2.2.2.a), (zb, 153, 120000, ca 1, u.2.2.2.2.2.2.2.2.2.2.b), (zc, 154, 120000, ca 1, u.2.2.2.2.2.2.2.2.2.2.c), (zy, 165, 16, ca 1, u.2.2.2.2.2.2.2.2.2.2.y)]) (jA base)) ([.ref r0, .int a1] : List Value).toArray s 0 0 (jA base) := ⟨_, rfl⟩
  rw [← hQ]
  have hl := lv_entry ([.ref r0, .int a1]) (n := 3) (Nat.le_of_ble_eq_true rfl)
  rw [lg_entry_eq]
  generalize (lg_sl ([.ref r0, .int a1]) ++ List.replicate (3 - (lg_sl ([.ref r0, .int a1])).length) Slot.unset).toArray = ls at hl ⊢
  have hl : lv_has ls 3 [(0, .ref r0), (1, .int a1)] := hl
  generalize hR : (headSpec (jw yX13_declare cX13_declare 3 none) ({ frames := 1604, cells := 0, slots := 0, locals := 65223 })).room = R
  subst hH0
  have hh : jSt (dC, dI) B base G0 G0 EX13_declare s.heap 0 0 [(r0, 15, 5, .int pn), (r0, 15, 34, .int pu), (r0, 15, 11, .int py), (r0, 15, 36, .int pb), (r0, 15, 15, .int pf), (r0, 15, 21, .int pg), (r0, 15, 18, .int pp), (r0, 15, 20, .int pl), (r0, 15, 42, .int pr), (r0, 15, 17, .ref zf), (r0, 15, 22, .ref zg), (r0, 15, 25, .ref zh), (r0, 15, 27, .ref zp), (r0, 15, 0, .ref zs), (r0, 15, 1, .ref zn), (r0, 15, 2, .ref za), (r0, 15, 3, .ref zb), (r0, 15, 4, .ref zc), (r0, 15, 14, .ref zy)] [(zf, 160, 16, ca 1, ff), (zg, 161, 46, ca 1, fg), (zh, 159, 46, ca 1, fh), (zp, 162, 368, ca 1, fp), (zs, 150, 120000, ca 1, C.s), (zn, 151, 120000, ca 1, C.n), (za, 152, 120000, ca 1, C.a), (zb, 153, 120000, ca 1, C.b), (zc, 154, 120000, ca 1, C.c), (zy, 165, 16, ca 1, C.y)] [] s.heap [] := jSt.start hX hP0 hM0 jIs.nil
  clear hX hP0
  have hk0 : (0 : Int32).toInt = 0 := by decide
  have hk1 : (1 : Int32).toInt = 1 := by decide
  have hk2 : (2 : Int32).toInt = 2 := by decide
  have hk9 : (9 : Int32).toInt = 9 := by decide
  have hk16 : (16 : Int32).toInt = 16 := by decide
  have hk80 : (80 : Int32).toInt = 80 := by decide
  have hly_15_11 := htw (u_lay RX13 TX13 11) (jWc_wsX130 _ (u_in_lay (by decide)))
  have hly_15_12 := htw (u_lay RX13 TX13 12) (jWc_wsX130 _ (u_in_lay (by decide)))
  have hly_15_13 := htw (u_lay RX13 TX13 13) (jWc_wsX130 _ (u_in_lay (by decide)))
  have hly_15_14 := htw (u_lay RX13 TX13 14) (jWc_wsX130 _ (u_in_lay (by decide)))
  have hly_15_15 := htw (u_lay RX13 TX13 15) (jWc_wsX130 _ (u_in_lay (by decide)))
  have hly_15_18 := htw (u_lay RX13 TX13 18) (jWc_wsX130 _ (u_in_lay (by decide)))
  have hly_15_19 := htw (u_lay RX13 TX13 19) (jWc_wsX130 _ (u_in_lay (by decide)))
  have hly_15_20 := htw (u_lay RX13 TX13 20) (jWc_wsX130 _ (u_in_lay (by decide)))
  have hly_15_21 := htw (u_lay RX13 TX13 21) (jWc_wsX130 _ (u_in_lay (by decide)))
  have hly_15_22 := htw (u_lay RX13 TX13 22) (jWc_wsX130 _ (u_in_lay (by decide)))
  have hly_15_23 := htw (u_lay RX13 TX13 23) (jWc_wsX130 _ (u_in_lay (by decide)))
  have hly_15_25 := htw (u_lay RX13 TX13 25) (jWc_wsX130 _ (u_in_lay (by decide)))
  have hly_15_34 := htw (u_lay RX13 TX13 34) (jWc_wsX130 _ (u_in_lay (by decide)))
  have hly_15_38 := htw (u_lay RX13 TX13 38) (jWc_wsX130 _ (u_in_lay (by decide)))
  have hly_15_41 := htw (u_lay RX13 TX13 41) (jWc_wsX130 _ (u_in_lay (by decide)))
  have hly_15_42 := htw (u_lay RX13 TX13 42) (jWc_wsX130 _ (u_in_lay (by decide)))
  have hlk_291 := (htw (.fieldLink RX13 291 "ProofServerModel$Kernel" "name1" "I") (jWr_61 _ (List.mem_of_getElem? (i := 12) rfl)))
  have hlk_109 := (htw (.fieldLink RX13 109 "ProofServerModel$Kernel" "symbols" "I") (jWr_59 _ (List.mem_of_getElem? (i := 17) rfl)))
  have hlk_221 := (htw (.fieldLink RX13 221 "ProofServerModel$Kernel" "fault" "I") (jWr_60 _ (List.mem_of_getElem? (i := 3) rfl)))
  have hlk_37 := (htw (.fieldLink RX13 37 "ProofServerModel$Kernel" "symbol" "[I") (jWr_14 _ (List.mem_of_getElem? (i := 17) rfl)))
  have hlk_40 := (htw (.fieldLink RX13 40 "ProofServerModel$Kernel" "predicate" "[Z") (jWr_14 _ (List.mem_of_getElem? (i := 18) rfl)))
  have hlk_44 := (htw (.fieldLink RX13 44 "ProofServerModel$Kernel" "arity" "[I") (jWr_14 _ (List.mem_of_getElem? (i := 19) rfl)))
  have hlk_300 := (htw (.fieldLink RX13 300 "ProofServerModel$Kernel" "digit" "I") (jWr_61 _ (List.mem_of_getElem? (i := 14) rfl)))
  have hlk_294 := (htw (.fieldLink RX13 294 "ProofServerModel$Kernel" "raw" "I") (jWr_61 _ (List.mem_of_getElem? (i := 13) rfl)))
  have hlk_112 := (htw (.fieldLink RX13 112 "ProofServerModel$Kernel" "facts" "I") (jWr_59 _ (List.mem_of_getElem? (i := 18) rfl)))
  have hlk_115 := (htw (.fieldLink RX13 115 "ProofServerModel$Kernel" "proof" "Z") (jWr_59 _ (List.mem_of_getElem? (i := 19) rfl)))
  have hlk_330 := (htw (.fieldLink RX13 330 "ProofServerModel$Kernel" "lemmaName" "I") (jWr_63 _ (List.mem_of_getElem? (i := 21) rfl)))
  have hlk_333 := (htw (.fieldLink RX13 333 "ProofServerModel$Kernel" "lemma" "I") (jWr_63 _ (List.mem_of_getElem? (i := 22) rfl)))
  have hlk_119 := (htw (.fieldLink RX13 119 "ProofServerModel$Kernel" "goals" "I") (jWr_59 _ (List.mem_of_getElem? (i := 20) rfl)))
  have hlk_53 := (htw (.fieldLink RX13 53 "ProofServerModel$Kernel" "goal" "[I") (jWr_14 _ (List.mem_of_getElem? (i := 22) rfl)))
  have hlk_56 := (htw (.fieldLink RX13 56 "ProofServerModel$Kernel" "vars" "[I") (jWr_14 _ (List.mem_of_getElem? (i := 23) rfl)))
  have hlk_62 := (htw (.fieldLink RX13 62 "ProofServerModel$Kernel" "hyps" "[I") (jWr_15 _ (List.mem_of_getElem? (i := 1) rfl)))
  have hrg_a1 := jb_rng a1
  have hw := hp0
  obtain ⟨w1, w2, w3, w4, w5, w6, w7, -, -, -⟩ := hw
  refine lv_aload_n hx hb dX13_declare_0 rfl (lv_at hl 0 rfl) ?_
  refine lv_aload_n hx hb dX13_declare_1 rfl (lv_at hl 0 rfl) ?_
  obtain ⟨v_1, hv_1, hh_2⟩ := hh.pin (C := RX13) (T := TX13) (N := 50) hB15 rfl (by decide) hg_r0 (i := 38) (by decide) rfl
  clear hh
  obtain ⟨name1_3, rfl, hloname1_3, hhiname1_3⟩ := hv_1
  refine j7_read hx hb hown hK (C := RX13) (T := TX13) (N := 50) rfl hly_15_38 hlk_291 (hh_2.at 0 rfl) dX13_declare_2 ?_
  refine va_callv (A0 := jA base) (H0 := s.heap) (va_runV (As := [.int name1_3]) (rest := []) ⟨hx, hb, hml, hown, hts⟩ (uX13_checkNewK l dC dI ca base B hB hAp hB15 hB158 hB159 hB163 G0 s.heap r0 name1_3 pu py pf pg zh fh) (cwV 1 hts (jgV (jWr_63 _ (List.mem_of_getElem? (i := 23) rfl)) (jWr_64 _ (List.mem_of_getElem? (i := 0) rfl)) (jWr_64 _ (List.mem_of_getElem? (i := 1) rfl)) (jWr_12 _ (List.mem_of_getElem? (i := 12) rfl)) (jWr_64 _ (List.mem_of_getElem? (i := 2) rfl))) rfl rfl rfl (by decide +kernel) ⟨by rw [← hR]; exact Nat.le_of_ble_eq_true rfl, by rw [← hR]; exact Nat.le_of_ble_eq_true rfl⟩) ⟨fun a U g mk q => by obtain ⟨q0, q1, q2, qK, q10, q11, q12, q13, q14⟩ := q; exact ⟨q0, q1, q2, jG.calling g mk a qK, q10, q11, q12, q13, q14⟩, hh_2.recv (C := RX13) (T := TX13) (N := 50) hB15 rfl (by decide) hg_r0 hK, fun U hU hW => ⟨rfl, hU, hh_2.2.1, hG.step hW hU hh_2.1, hg_r0, hg_zh, (hh_2.2.2.1.sub (L1 := [(r0, 15, 34, .int pu), (r0, 15, 11, .int py), (r0, 15, 15, .int pf), (r0, 15, 21, .int pg), (r0, 15, 25, .ref zh)]) [2, 3, 5, 6, 12] rfl), (hh_2.2.2.2.2.2.2.2.1.sub (L1 := [(zh, 159, 46, ca 1, fh)]) [2] rfl), by first | omega | (refine ⟨?_, ?_, ?_, ?_, ?_, ?_, ?_, ?_⟩ <;> (first | omega | rfl | assumption | decide | exact Or.inl rfl | exact Or.inr rfl | (simp only; omega)))⟩⟩ rfl rfl hl.1 rfl (lv_room (Nat.le_of_ble_eq_true rfl)) dX13_declare_5 ⟨Nat.zero_le _, Nat.zero_le _⟩) hh_2.1 (fun q _ h => h) (fun q h => h) (fun u_4 t_4 H_4 locs_4 ht_4 hvm_4 hr_5 hb_4 hz_4 hk_4 hS_4 => ?_)
  obtain ⟨qu_4, rfl⟩ : ∃ z, z = u_4 := ⟨_, rfl⟩
  rw [ht_4] at hb_4
  obtain ⟨hb_41, hb_42, hb_43, hb_44, hb_45⟩ := hb_4
  have hh_4 : jSt (dC, dI) B base G0 G0 EX13_declare s.heap 0 0 [(r0, 15, 34, .int qu_4), (r0, 15, 38, .int name1_3), (r0, 15, 5, .int pn), (r0, 15, 11, .int py), (r0, 15, 36, .int pb), (r0, 15, 15, .int pf), (r0, 15, 21, .int pg), (r0, 15, 18, .int pp), (r0, 15, 20, .int pl), (r0, 15, 42, .int pr), (r0, 15, 17, .ref zf), (r0, 15, 22, .ref zg), (r0, 15, 25, .ref zh), (r0, 15, 27, .ref zp), (r0, 15, 0, .ref zs), (r0, 15, 1, .ref zn), (r0, 15, 2, .ref za), (r0, 15, 3, .ref zb), (r0, 15, 4, .ref zc), (r0, 15, 14, .ref zy)] [(zf, 160, 16, ca 1, ff), (zg, 161, 46, ca 1, fg), (zh, 159, 46, ca 1, fh), (zp, 162, 368, ca 1, fp), (zs, 150, 120000, ca 1, C.s), (zn, 151, 120000, ca 1, C.n), (za, 152, 120000, ca 1, C.a), (zb, 153, 120000, ca 1, C.b), (zc, 154, 120000, ca 1, C.c), (zy, 165, 16, ca 1, C.y)] [] H_4 locs_4 := ((hh_2.call hb_41 hb_42 hb_43 hb_44 hS_4 rfl (L1 := [(r0, 15, 38, .int name1_3), (r0, 15, 5, .int pn), (r0, 15, 11, .int py), (r0, 15, 36, .int pb), (r0, 15, 15, .int pf), (r0, 15, 21, .int pg), (r0, 15, 18, .int pp), (r0, 15, 20, .int pl), (r0, 15, 42, .int pr), (r0, 15, 17, .ref zf), (r0, 15, 22, .ref zg), (r0, 15, 25, .ref zh), (r0, 15, 27, .ref zp), (r0, 15, 0, .ref zs), (r0, 15, 1, .ref zn), (r0, 15, 2, .ref za), (r0, 15, 3, .ref zb), (r0, 15, 4, .ref zc), (r0, 15, 14, .ref zy)]) [0, 1, 3, 4, 5, 6, 7, 8, 9, 10, 11, 12, 13, 14, 15, 16, 17, 18, 19] rfl rfl (M1 := [(zf, 160, 16, ca 1, ff), (zg, 161, 46, ca 1, fg), (zh, 159, 46, ca 1, fh), (zp, 162, 368, ca 1, fp), (zs, 150, 120000, ca 1, C.s), (zn, 151, 120000, ca 1, C.n), (za, 152, 120000, ca 1, C.a), (zb, 153, 120000, ca 1, C.b), (zc, 154, 120000, ca 1, C.c), (zy, 165, 16, ca 1, C.y)]) [0, 1, 2, 3, 4, 5, 6, 7, 8, 9] rfl rfl (I1 := []) [] rfl rfl).more hb_45)
  clear hh_2 ht_4 hvm_4 hz_4 hk_4 hS_4 hb_41 hb_42 hb_43 hb_44 hb_45
  obtain ⟨hr_5_0, hr_5_1⟩ := hr_5
  refine lv_iload_n hx hb dX13_declare_8 rfl (lv_at hl 1 rfl) ?_
  refine lv_iconst (v := 1) hx hb dX13_declare_9 (by decide) ?_
  refine lv_icmp_gt (tgt := 92) hx hb dX13_declare_10 (by decide) (fun c_6 => ?_) (fun c_6 => ?_)
  · skip
    have c_6' : a1.toInt > 1 := jb_gt (rfl) ((by decide)) c_6
    refine lv_aload_n hx hb dX13_declare_92 rfl (lv_at hl 0 rfl) ?_
    refine lv_aload_n hx hb dX13_declare_93 rfl (lv_at hl 0 rfl) ?_
    refine j7_read hx hb hown hK (C := RX13) (T := TX13) (N := 50) rfl hly_15_42 hlk_294 (hh_4.at 9 rfl) dX13_declare_94 ?_
    refine va_calli (A0 := jA base) (H0 := s.heap) (va_runV (As := [.int pr]) (rest := []) ⟨hx, hb, hml, hown, hts⟩ (aX13_meant l dC dI ca base B hB hAp hB15 hB103 hB150 hB151 hB152 hB153 hB154 hB158 hB163 hB165 1510 G0 H_4 r0 pr pn qu_4 py pb zs zn za zb zc zy 12 lo hi C) (cwV 1 hts (jgV (jWr_64 _ (List.mem_of_getElem? (i := 23) rfl)) (jWr_65 _ (List.mem_of_getElem? (i := 0) rfl)) (jWr_65 _ (List.mem_of_getElem? (i := 1) rfl)) (jWr_12 _ (List.mem_of_getElem? (i := 12) rfl)) (jWr_65 _ (List.mem_of_getElem? (i := 2) rfl))) rfl rfl rfl (by decide +kernel) ⟨by rw [← hR]; exact Nat.le_of_ble_eq_true rfl, by rw [← hR]; exact Nat.le_of_ble_eq_true rfl⟩) ⟨fun a U g mk q => by obtain ⟨q0, q1, q2, qK, q10, q11, q12, q13, q14, q15, q16, q17, q18, q19⟩ := q; exact ⟨q0, q1, q2, jG.calling g mk a qK, q10, q11, q12, q13, q14, q15, q16, q17, q18, q19⟩, hh_4.recv (C := RX13) (T := TX13) (N := 50) hB15 rfl (by decide) hg_r0 hK, fun U hU hW => ⟨rfl, hU, hh_4.2.1, hG.step hW hU hh_4.1, hg_r0, hg_zs, hg_zn, hg_za, hg_zb, hg_zc, hg_zy, (hh_4.2.2.1.sub (L1 := [(r0, 15, 5, .int pn), (r0, 15, 34, .int qu_4), (r0, 15, 11, .int py), (r0, 15, 36, .int pb), (r0, 15, 0, .ref zs), (r0, 15, 1, .ref zn), (r0, 15, 2, .ref za), (r0, 15, 3, .ref zb), (r0, 15, 4, .ref zc), (r0, 15, 14, .ref zy)]) [2, 0, 3, 4, 14, 15, 16, 17, 18, 19] rfl), (hh_4.2.2.2.2.2.2.2.1.sub (L1 := [(zs, 150, 120000, ca 1, C.s), (zn, 151, 120000, ca 1, C.n), (za, 152, 120000, ca 1, C.a), (zb, 153, 120000, ca 1, C.b), (zc, 154, 120000, ca 1, C.c), (zy, 165, 16, ca 1, C.y)]) [4, 5, 6, 7, 8, 9] rfl), ⟨(by first | assumption | exact (hp1 (by omega)).up (by omega) (Nat.le_refl _) | omega), (by first | omega | rfl | assumption | exact (hp1 (by omega)).up (by omega) (Nat.le_refl _)), (by first | omega | rfl | assumption | exact (hp1 (by omega)).up (by omega) (Nat.le_refl _)), (by first | omega | rfl | assumption | exact (hp1 (by omega)).up (by omega) (Nat.le_refl _)), (by first | omega | rfl | assumption | exact (hp1 (by omega)).up (by omega) (Nat.le_refl _)), (by first | omega | rfl | assumption | exact (hp1 (by omega)).up (by omega) (Nat.le_refl _)), (by first | omega | rfl | assumption | exact (hp1 (by omega)).up (by omega) (Nat.le_refl _)), (by first | omega | rfl | assumption | exact (hp1 (by omega)).up (by omega) (Nat.le_refl _)), (by first | omega | rfl | assumption | exact (hp1 (by omega)).up (by omega) (Nat.le_refl _)), (by first | omega | rfl | assumption | exact (hp1 (by omega)).up (by omega) (Nat.le_refl _)), (by first | omega | rfl | assumption | exact (hp1 (by omega)).up (by omega) (Nat.le_refl _))⟩⟩⟩ rfl rfl hl.1 rfl (lv_room (Nat.le_of_ble_eq_true rfl)) dX13_declare_97 ⟨Nat.zero_le _, Nat.zero_le _⟩) hh_4.1 (fun q _ h => h) (fun q h => h) (fun r_8 u_7 t_7 H_7 locs_7 ht_7 hvm_7 hr_8 hb_7 hz_7 hk_7 hS_7 => ?_)
    obtain ⟨qn_7, qu_7, qb_7, D_7⟩ := u_7
    rw [ht_7] at hb_7
    obtain ⟨⟨hb_71, hb_72, hb_73, hb_74, hb_75⟩, hb_76⟩ := hb_7
    have hh_7 : jSt (dC, dI) B base G0 G0 EX13_declare s.heap 0 0 [(r0, 15, 5, .int qn_7), (r0, 15, 34, .int qu_7), (r0, 15, 36, .int qb_7), (r0, 15, 38, .int name1_3), (r0, 15, 11, .int py), (r0, 15, 15, .int pf), (r0, 15, 21, .int pg), (r0, 15, 18, .int pp), (r0, 15, 20, .int pl), (r0, 15, 42, .int pr), (r0, 15, 17, .ref zf), (r0, 15, 22, .ref zg), (r0, 15, 25, .ref zh), (r0, 15, 27, .ref zp), (r0, 15, 0, .ref zs), (r0, 15, 1, .ref zn), (r0, 15, 2, .ref za), (r0, 15, 3, .ref zb), (r0, 15, 4, .ref zc), (r0, 15, 14, .ref zy)] [(zs, 150, 120000, ca 1, D_7.s), (zn, 151, 120000, ca 1, D_7.n), (za, 152, 120000, ca 1, D_7.a), (zb, 153, 120000, ca 1, D_7.b), (zc, 154, 120000, ca 1, D_7.c), (zy, 165, 16, ca 1, D_7.y), (zf, 160, 16, ca 1, ff), (zg, 161, 46, ca 1, fg), (zh, 159, 46, ca 1, fh), (zp, 162, 368, ca 1, fp), (zy, 165, 16, ca 1, C.y)] [] H_7 locs_7 := ((hh_4.call hb_71 hb_72 hb_73 hb_74 hS_7 rfl (L1 := [(r0, 15, 38, .int name1_3), (r0, 15, 11, .int py), (r0, 15, 15, .int pf), (r0, 15, 21, .int pg), (r0, 15, 18, .int pp), (r0, 15, 20, .int pl), (r0, 15, 42, .int pr), (r0, 15, 17, .ref zf), (r0, 15, 22, .ref zg), (r0, 15, 25, .ref zh), (r0, 15, 27, .ref zp), (r0, 15, 0, .ref zs), (r0, 15, 1, .ref zn), (r0, 15, 2, .ref za), (r0, 15, 3, .ref zb), (r0, 15, 4, .ref zc), (r0, 15, 14, .ref zy)]) [1, 3, 5, 6, 7, 8, 9, 10, 11, 12, 13, 14, 15, 16, 17, 18, 19] rfl rfl (M1 := [(zf, 160, 16, ca 1, ff), (zg, 161, 46, ca 1, fg), (zh, 159, 46, ca 1, fh), (zp, 162, 368, ca 1, fp), (zy, 165, 16, ca 1, C.y)]) [0, 1, 2, 3, 9] rfl rfl (I1 := []) [] rfl rfl).more hb_75).moreM hb_76
    clear hh_4 ht_7 hvm_7 hz_7 hk_7 hS_7 hb_71 hb_72 hb_73 hb_74 hb_75
    clear hb_76
    try simp only at hr_8
    obtain ⟨hr_8_0, hr_8_1, hr_8_2, hr_8_3, hr_8_4, hr_8_5, hr_8_6⟩ := hr_8
    refine lv_istore_n (lv' := [(2, .int r_8), (0, .ref r0), (1, .int a1)]) hx hb dX13_declare_100 rfl hl (by decide) rfl (fun ls hl => ?_)
    refine lv_aload_n hx hb dX13_declare_101 rfl (lv_at hl 1 rfl) ?_
    refine j7_read hx hb hown hK (C := RX13) (T := TX13) (N := 50) rfl hly_15_34 hlk_221 (hh_7.at 1 rfl) dX13_declare_102 ?_
    refine lv_if_ne (tgt := 138) hx hb dX13_declare_105 (by decide) (fun c_9 => ?_) (fun c_9 => ?_)
    · skip
      have c_9' : qu_7.toInt ≠ 0 := jb_ne (rfl) ((by decide)) c_9
      refine lv_aload_n hx hb dX13_declare_138 rfl (lv_at hl 1 rfl) ?_
      refine j7_read hx hb hown hK (C := RX13) (T := TX13) (N := 50) rfl hly_15_34 hlk_221 (hh_7.at 1 rfl) dX13_declare_139 ?_
      refine lv_if_le (tgt := 146) hx hb dX13_declare_142 (by decide) (fun c_10 => ?_) (fun c_10 => ?_)
      · skip
        have c_10' : qu_7.toInt ≤ 0 := jb_le (rfl) ((by decide)) c_10
        exact (by omega : False).elim
      · skip
        have c_10' : qu_7.toInt > 0 := jb_le_n (rfl) ((by decide)) c_10
        rw [hQ]
        exact W.vret hx hb hr (fun t ht hW => ⟨⟨(qn_7, qu_7, py, pf, pg, pp, pl, ff, fg, fh, D_7), rfl, by (try dsimp only); exact ⟨by omega, by omega, by omega, by omega, hp0.ag hr_8_4 (by omega)⟩, ⟨hh_7.rt (M1 := [(r0, 15, 5, .int qn_7), (r0, 15, 34, .int qu_7), (r0, 15, 11, .int py), (r0, 15, 15, .int pf), (r0, 15, 21, .int pg), (r0, 15, 18, .int pp), (r0, 15, 20, .int pl)]) [0, 1, 4, 5, 6, 7, 8] rfl ht, by rw [ht]; exact hh_7.2.2.2.2.2.2.2.1.sub [6, 7, 8, 0, 1, 2, 3, 4, 5] rfl⟩⟩, by rw [ht]; try exact hh_7.1.1, fun q h9 hq => by rw [ht]; try exact hh_7.1.2.1 q h9 hq⟩) hh_7.1.2.2 dX13_declare_145
    · skip
      have c_9' : qu_7.toInt = 0 := jb_ne_n (rfl) ((by decide)) c_9
      obtain ⟨hf1, hf2⟩ := hr_8_6 (by omega)
      have hf3 := hf1.nd
      have hf4 := hf3.1
      have hf5 := hf3.2.1
      refine lv_aload_n hx hb dX13_declare_108 rfl (lv_at hl 1 rfl) ?_
      refine lv_iload_n hx hb dX13_declare_109 rfl (lv_at hl 0 rfl) ?_
      refine va_calli (A0 := jA base) (H0 := s.heap) (va_runV (As := [.int r_8]) (rest := []) ⟨hx, hb, hml, hown, hts⟩ (aX13_size l dC dI ca base B hB hAp hB15 hB150 hB151 hB152 hB153 hB154 hB165 1600 G0 H_7 r0 r_8 zs zn za zb zc zy D_7) (cwV 1 hts (jgV (jWr_65 _ (List.mem_of_getElem? (i := 11) rfl)) (jWr_65 _ (List.mem_of_getElem? (i := 12) rfl)) (jWr_65 _ (List.mem_of_getElem? (i := 13) rfl)) (jWr_12 _ (List.mem_of_getElem? (i := 12) rfl)) (jWr_65 _ (List.mem_of_getElem? (i := 14) rfl))) rfl rfl rfl (by decide +kernel) ⟨by rw [← hR]; exact Nat.le_of_ble_eq_true rfl, by rw [← hR]; exact Nat.le_of_ble_eq_true rfl⟩) ⟨fun a U g mk q => by obtain ⟨q0, q1, q2, qK, q10, q11, q12, q13, q14, q15, q16, q17, q18, q19⟩ := q; exact ⟨q0, q1, q2, jG.calling g mk a qK, q10, q11, q12, q13, q14, q15, q16, q17, q18, q19⟩, hh_7.recv (C := RX13) (T := TX13) (N := 50) hB15 rfl (by decide) hg_r0 hK, fun U hU hW => ⟨rfl, hU, hh_7.2.1, hG.step hW hU hh_7.1, hg_r0, hg_zs, hg_zn, hg_za, hg_zb, hg_zc, hg_zy, (hh_7.2.2.1.sub (L1 := [(r0, 15, 0, .ref zs), (r0, 15, 1, .ref zn), (r0, 15, 2, .ref za), (r0, 15, 3, .ref zb), (r0, 15, 4, .ref zc), (r0, 15, 14, .ref zy)]) [14, 15, 16, 17, 18, 19] rfl), (hh_7.2.2.2.2.2.2.2.1.sub (L1 := [(zs, 150, 120000, ca 1, D_7.s), (zn, 151, 120000, ca 1, D_7.n), (za, 152, 120000, ca 1, D_7.a), (zb, 153, 120000, ca 1, D_7.b), (zc, 154, 120000, ca 1, D_7.c), (zy, 165, 16, ca 1, D_7.y)]) [0, 1, 2, 3, 4, 5] rfl), ⟨(by first | assumption | exact (hf1.mono (d1 := 1600) (by omega) (Int.le_refl _)).tr (by omega) (by omega) | omega), (by first | omega | rfl | assumption | exact (hf1.mono (d1 := 1600) (by omega) (Int.le_refl _)).tr (by omega) (by omega)), (by first | omega | rfl | assumption | exact (hf1.mono (d1 := 1600) (by omega) (Int.le_refl _)).tr (by omega) (by omega))⟩⟩⟩ rfl rfl hl.1 rfl (lv_room (Nat.le_of_ble_eq_true rfl)) dX13_declare_110 ⟨Nat.zero_le _, Nat.zero_le _⟩) hh_7.1 (fun q _ h => h) (fun q h => h) (fun r_12 u_11 t_11 H_11 locs_11 ht_11 hvm_11 hr_12 hb_11 hz_11 hk_11 hS_11 => ?_)
      rw [ht_11] at hb_11
      obtain ⟨hb_111, hb_112, hb_113, hb_114, hb_115⟩ := hb_11
      have hh_11 : jSt (dC, dI) B base G0 G0 EX13_declare s.heap 0 0 [(r0, 15, 5, .int qn_7), (r0, 15, 34, .int qu_7), (r0, 15, 36, .int qb_7), (r0, 15, 38, .int name1_3), (r0, 15, 11, .int py), (r0, 15, 15, .int pf), (r0, 15, 21, .int pg), (r0, 15, 18, .int pp), (r0, 15, 20, .int pl), (r0, 15, 42, .int pr), (r0, 15, 17, .ref zf), (r0, 15, 22, .ref zg), (r0, 15, 25, .ref zh), (r0, 15, 27, .ref zp), (r0, 15, 0, .ref zs), (r0, 15, 1, .ref zn), (r0, 15, 2, .ref za), (r0, 15, 3, .ref zb), (r0, 15, 4, .ref zc), (r0, 15, 14, .ref zy)] [(zs, 150, 120000, ca 1, D_7.s), (zn, 151, 120000, ca 1, D_7.n), (za, 152, 120000, ca 1, D_7.a), (zb, 153, 120000, ca 1, D_7.b), (zc, 154, 120000, ca 1, D_7.c), (zy, 165, 16, ca 1, D_7.y), (zf, 160, 16, ca 1, ff), (zg, 161, 46, ca 1, fg), (zh, 159, 46, ca 1, fh), (zp, 162, 368, ca 1, fp), (zy, 165, 16, ca 1, C.y)] [] H_11 locs_11 := ((hh_7.call hb_111 hb_112 hb_113 hb_114 hS_11 rfl (L1 := [(r0, 15, 5, .int qn_7), (r0, 15, 34, .int qu_7), (r0, 15, 36, .int qb_7), (r0, 15, 38, .int name1_3), (r0, 15, 11, .int py), (r0, 15, 15, .int pf), (r0, 15, 21, .int pg), (r0, 15, 18, .int pp), (r0, 15, 20, .int pl), (r0, 15, 42, .int pr), (r0, 15, 17, .ref zf), (r0, 15, 22, .ref zg), (r0, 15, 25, .ref zh), (r0, 15, 27, .ref zp), (r0, 15, 0, .ref zs), (r0, 15, 1, .ref zn), (r0, 15, 2, .ref za), (r0, 15, 3, .ref zb), (r0, 15, 4, .ref zc), (r0, 15, 14, .ref zy)]) [0, 1, 2, 3, 4, 5, 6, 7, 8, 9, 10, 11, 12, 13, 14, 15, 16, 17, 18, 19] rfl rfl (M1 := [(zs, 150, 120000, ca 1, D_7.s), (zn, 151, 120000, ca 1, D_7.n), (za, 152, 120000, ca 1, D_7.a), (zb, 153, 120000, ca 1, D_7.b), (zc, 154, 120000, ca 1, D_7.c), (zy, 165, 16, ca 1, D_7.y), (zf, 160, 16, ca 1, ff), (zg, 161, 46, ca 1, fg), (zh, 159, 46, ca 1, fh), (zp, 162, 368, ca 1, fp), (zy, 165, 16, ca 1, C.y)]) [0, 1, 2, 3, 4, 5, 6, 7, 8, 9, 10] rfl rfl (I1 := []) [] rfl rfl).more hb_115)
      clear hh_7 ht_11 hvm_11 hz_11 hk_11 hS_11 hb_111 hb_112 hb_113 hb_114 hb_115
      refine lv_bipush (v := 80) hx hb dX13_declare_113 (by decide) ?_
      refine lv_icmp_gt (tgt := 132) hx hb dX13_declare_115 (by decide) (fun c_13 => ?_) (fun c_13 => ?_)
      · skip
        have c_13' : r_12.toInt > 80 := jb_gt (rfl) ((by decide)) c_13
        refine lv_aload_n hx hb dX13_declare_132 rfl (lv_at hl 1 rfl) ?_
        refine lv_bipush (v := 9) hx hb dX13_declare_133 (by decide) ?_
        refine va_callv (A0 := jA base) (H0 := s.heap) (va_runV (As := [.int 9]) (rest := []) ⟨hx, hb, hml, hown, hts⟩ (uX13_failsK l dC dI ca base B hB hAp hB15 G0 H_11 r0 9 qu_7) (cwV 1 hts (jgV (jWr_64 _ (List.mem_of_getElem? (i := 19) rfl)) (jWr_64 _ (List.mem_of_getElem? (i := 20) rfl)) (jWr_64 _ (List.mem_of_getElem? (i := 21) rfl)) (jWr_12 _ (List.mem_of_getElem? (i := 12) rfl)) (jWr_64 _ (List.mem_of_getElem? (i := 22) rfl))) rfl rfl rfl (by decide +kernel) ⟨by rw [← hR]; exact Nat.le_of_ble_eq_true rfl, by rw [← hR]; exact Nat.le_of_ble_eq_true rfl⟩) ⟨fun a U g mk q => by obtain ⟨q0, q1, q2, qK, q10, q11, q12⟩ := q; exact ⟨q0, q1, q2, jG.calling g mk a qK, q10, q11, q12⟩, hh_11.recv (C := RX13) (T := TX13) (N := 50) hB15 rfl (by decide) hg_r0 hK, fun U hU hW => ⟨rfl, hU, hh_11.2.1, hG.step hW hU hh_11.1, hg_r0, (hh_11.2.2.1.sub (L1 := [(r0, 15, 34, .int qu_7)]) [1] rfl), by first | omega | (refine ⟨?_, ?_, ?_, ?_⟩ <;> (first | omega | rfl | assumption | decide | exact Or.inl rfl | exact Or.inr rfl | (simp only; omega)))⟩⟩ rfl rfl hl.1 rfl (lv_room (Nat.le_of_ble_eq_true rfl)) dX13_declare_135 ⟨Nat.zero_le _, Nat.zero_le _⟩) hh_11.1 (fun q _ h => h) (fun q h => h) (fun u_14 t_14 H_14 locs_14 ht_14 hvm_14 hr_15 hb_14 hz_14 hk_14 hS_14 => ?_)
        obtain ⟨qu_14, rfl⟩ : ∃ z, z = u_14 := ⟨_, rfl⟩
        rw [ht_14] at hb_14
        obtain ⟨hb_141, hb_142, hb_143, hb_144, hb_145⟩ := hb_14
        have hh_14 : jSt (dC, dI) B base G0 G0 EX13_declare s.heap 0 0 [(r0, 15, 34, .int qu_14), (r0, 15, 5, .int qn_7), (r0, 15, 36, .int qb_7), (r0, 15, 38, .int name1_3), (r0, 15, 11, .int py), (r0, 15, 15, .int pf), (r0, 15, 21, .int pg), (r0, 15, 18, .int pp), (r0, 15, 20, .int pl), (r0, 15, 42, .int pr), (r0, 15, 17, .ref zf), (r0, 15, 22, .ref zg), (r0, 15, 25, .ref zh), (r0, 15, 27, .ref zp), (r0, 15, 0, .ref zs), (r0, 15, 1, .ref zn), (r0, 15, 2, .ref za), (r0, 15, 3, .ref zb), (r0, 15, 4, .ref zc), (r0, 15, 14, .ref zy)] [(zs, 150, 120000, ca 1, D_7.s), (zn, 151, 120000, ca 1, D_7.n), (za, 152, 120000, ca 1, D_7.a), (zb, 153, 120000, ca 1, D_7.b), (zc, 154, 120000, ca 1, D_7.c), (zy, 165, 16, ca 1, D_7.y), (zf, 160, 16, ca 1, ff), (zg, 161, 46, ca 1, fg), (zh, 159, 46, ca 1, fh), (zp, 162, 368, ca 1, fp), (zy, 165, 16, ca 1, C.y)] [] H_14 locs_14 := ((hh_11.call hb_141 hb_142 hb_143 hb_144 hS_14 rfl (L1 := [(r0, 15, 5, .int qn_7), (r0, 15, 36, .int qb_7), (r0, 15, 38, .int name1_3), (r0, 15, 11, .int py), (r0, 15, 15, .int pf), (r0, 15, 21, .int pg), (r0, 15, 18, .int pp), (r0, 15, 20, .int pl), (r0, 15, 42, .int pr), (r0, 15, 17, .ref zf), (r0, 15, 22, .ref zg), (r0, 15, 25, .ref zh), (r0, 15, 27, .ref zp), (r0, 15, 0, .ref zs), (r0, 15, 1, .ref zn), (r0, 15, 2, .ref za), (r0, 15, 3, .ref zb), (r0, 15, 4, .ref zc), (r0, 15, 14, .ref zy)]) [0, 2, 3, 4, 5, 6, 7, 8, 9, 10, 11, 12, 13, 14, 15, 16, 17, 18, 19] rfl rfl (M1 := [(zs, 150, 120000, ca 1, D_7.s), (zn, 151, 120000, ca 1, D_7.n), (za, 152, 120000, ca 1, D_7.a), (zb, 153, 120000, ca 1, D_7.b), (zc, 154, 120000, ca 1, D_7.c), (zy, 165, 16, ca 1, D_7.y), (zf, 160, 16, ca 1, ff), (zg, 161, 46, ca 1, fg), (zh, 159, 46, ca 1, fh), (zp, 162, 368, ca 1, fp), (zy, 165, 16, ca 1, C.y)]) [0, 1, 2, 3, 4, 5, 6, 7, 8, 9, 10] rfl rfl (I1 := []) [] rfl rfl).more hb_145)
        clear hh_11 ht_14 hvm_14 hz_14 hk_14 hS_14 hb_141 hb_142 hb_143 hb_144 hb_145
        obtain ⟨hr_15_0, hr_15_1, hr_15_2, hr_15_3⟩ := hr_15
        refine lv_aload_n hx hb dX13_declare_138 rfl (lv_at hl 1 rfl) ?_
        refine j7_read hx hb hown hK (C := RX13) (T := TX13) (N := 50) rfl hly_15_34 hlk_221 (hh_14.at 0 rfl) dX13_declare_139 ?_
        refine lv_if_le (tgt := 146) hx hb dX13_declare_142 (by decide) (fun c_16 => ?_) (fun c_16 => ?_)
        · skip
          have c_16' : qu_14.toInt ≤ 0 := jb_le (rfl) ((by decide)) c_16
          exact (by omega : False).elim
        · skip
          have c_16' : qu_14.toInt > 0 := jb_le_n (rfl) ((by decide)) c_16
          rw [hQ]
          exact W.vret hx hb hr (fun t ht hW => ⟨⟨(qn_7, qu_14, py, pf, pg, pp, pl, ff, fg, fh, D_7), rfl, by (try dsimp only); exact ⟨by omega, by omega, by omega, by omega, hp0.ag hr_8_4 (by omega)⟩, ⟨hh_14.rt (M1 := [(r0, 15, 5, .int qn_7), (r0, 15, 34, .int qu_14), (r0, 15, 11, .int py), (r0, 15, 15, .int pf), (r0, 15, 21, .int pg), (r0, 15, 18, .int pp), (r0, 15, 20, .int pl)]) [1, 0, 4, 5, 6, 7, 8] rfl ht, by rw [ht]; exact hh_14.2.2.2.2.2.2.2.1.sub [6, 7, 8, 0, 1, 2, 3, 4, 5] rfl⟩⟩, by rw [ht]; try exact hh_14.1.1, fun q h9 hq => by rw [ht]; try exact hh_14.1.2.1 q h9 hq⟩) hh_14.1.2.2 dX13_declare_145
      · skip
        have c_13' : r_12.toInt ≤ 80 := jb_gt_n (rfl) ((by decide)) c_13
        refine lv_iload_n hx hb dX13_declare_118 rfl (lv_at hl 2 rfl) ?_
        refine lv_iconst (v := 2) hx hb dX13_declare_119 (by decide) ?_
        refine lv_icmp_ne (tgt := 138) hx hb dX13_declare_120 (by decide) (fun c_17 => ?_) (fun c_17 => ?_)
        · skip
          have c_17' : a1.toInt ≠ 2 := jb_ne (rfl) ((by decide)) c_17
          refine lv_aload_n hx hb dX13_declare_138 rfl (lv_at hl 1 rfl) ?_
          refine j7_read hx hb hown hK (C := RX13) (T := TX13) (N := 50) rfl hly_15_34 hlk_221 (hh_11.at 1 rfl) dX13_declare_139 ?_
          refine lv_if_le (tgt := 146) hx hb dX13_declare_142 (by decide) (fun c_18 => ?_) (fun c_18 => ?_)
          · skip
            have c_18' : qu_7.toInt ≤ 0 := jb_le (rfl) ((by decide)) c_18
            have hgd : jG1 D_7 qn_7.toInt py.toInt r_8.toInt := jG1.of (hf1.mono (d1 := 1523) (b1 := 0) (by omega) (by omega)) (by omega) (by omega)
            refine lv_iload_n hx hb dX13_declare_146 rfl (lv_at hl 2 rfl) ?_
            refine lv_iconst (v := 2) hx hb dX13_declare_147 (by decide) ?_
            refine lv_icmp_ne (tgt := 161) hx hb dX13_declare_148 (by decide) (fun c_19 => ?_) (fun c_19 => ?_)
            · skip
              have c_19' : a1.toInt ≠ 2 := jb_ne (rfl) ((by decide)) c_19
              refine lv_aload_n hx hb dX13_declare_161 rfl (lv_at hl 1 rfl) ?_
              refine lv_iconst (v := 1) hx hb dX13_declare_162 (by decide) ?_
              refine j7_put hx hb hown hK hh_11 hB hAp hB15 (C := RX13) (T := TX13) (N := 50) rfl (by decide) hg_r0 (i := 18) (by decide) hly_15_18 rfl hlk_115 rfl (ty := .boolean) (v := .int 1) (by decide +kernel) (jb_nz (Or.inr rfl)) (jb_fz (Or.inr rfl)) (⟨_, rfl, (Or.inr rfl)⟩) rfl (L1 := [(r0, 15, 5, .int qn_7), (r0, 15, 34, .int qu_7), (r0, 15, 36, .int qb_7), (r0, 15, 38, .int name1_3), (r0, 15, 11, .int py), (r0, 15, 15, .int pf), (r0, 15, 21, .int pg), (r0, 15, 20, .int pl), (r0, 15, 42, .int pr), (r0, 15, 17, .ref zf), (r0, 15, 22, .ref zg), (r0, 15, 25, .ref zh), (r0, 15, 27, .ref zp), (r0, 15, 0, .ref zs), (r0, 15, 1, .ref zn), (r0, 15, 2, .ref za), (r0, 15, 3, .ref zb), (r0, 15, 4, .ref zc), (r0, 15, 14, .ref zy)]) [0, 1, 2, 3, 4, 5, 6, 8, 9, 10, 11, 12, 13, 14, 15, 16, 17, 18, 19] rfl rfl rfl dX13_declare_163 (fun H_20 locs_20 hh_20 => ?_)
              clear hh_11
              refine lv_aload_n hx hb dX13_declare_166 rfl (lv_at hl 1 rfl) ?_
              refine lv_aload_n hx hb dX13_declare_167 rfl (lv_at hl 1 rfl) ?_
              refine j7_read hx hb hown hK (C := RX13) (T := TX13) (N := 50) rfl hly_15_38 hlk_291 (hh_20.at 4 rfl) dX13_declare_168 ?_
              refine j7_put hx hb hown hK hh_20 hB hAp hB15 (C := RX13) (T := TX13) (N := 50) rfl (by decide) hg_r0 (i := 19) (by decide) hly_15_19 rfl hlk_330 rfl (ty := .int) (v := .int name1_3) (by decide +kernel) rfl rfl (⟨_, rfl, by omega, by omega⟩) rfl (L1 := [(r0, 15, 18, .int 1), (r0, 15, 5, .int qn_7), (r0, 15, 34, .int qu_7), (r0, 15, 36, .int qb_7), (r0, 15, 38, .int name1_3), (r0, 15, 11, .int py), (r0, 15, 15, .int pf), (r0, 15, 21, .int pg), (r0, 15, 20, .int pl), (r0, 15, 42, .int pr), (r0, 15, 17, .ref zf), (r0, 15, 22, .ref zg), (r0, 15, 25, .ref zh), (r0, 15, 27, .ref zp), (r0, 15, 0, .ref zs), (r0, 15, 1, .ref zn), (r0, 15, 2, .ref za), (r0, 15, 3, .ref zb), (r0, 15, 4, .ref zc), (r0, 15, 14, .ref zy)]) [0, 1, 2, 3, 4, 5, 6, 7, 8, 9, 10, 11, 12, 13, 14, 15, 16, 17, 18, 19] rfl rfl rfl dX13_declare_171 (fun H_21 locs_21 hh_21 => ?_)
              clear hh_20
              refine lv_aload_n hx hb dX13_declare_174 rfl (lv_at hl 1 rfl) ?_
              refine lv_iload_n hx hb dX13_declare_175 rfl (lv_at hl 0 rfl) ?_
              refine j7_put hx hb hown hK hh_21 hB hAp hB15 (C := RX13) (T := TX13) (N := 50) rfl (by decide) hg_r0 (i := 20) (by decide) hly_15_20 rfl hlk_333 rfl (ty := .int) (v := .int r_8) (by decide +kernel) rfl rfl (⟨_, rfl, by omega, by omega⟩) rfl (L1 := [(r0, 15, 19, .int name1_3), (r0, 15, 18, .int 1), (r0, 15, 5, .int qn_7), (r0, 15, 34, .int qu_7), (r0, 15, 36, .int qb_7), (r0, 15, 38, .int name1_3), (r0, 15, 11, .int py), (r0, 15, 15, .int pf), (r0, 15, 21, .int pg), (r0, 15, 42, .int pr), (r0, 15, 17, .ref zf), (r0, 15, 22, .ref zg), (r0, 15, 25, .ref zh), (r0, 15, 27, .ref zp), (r0, 15, 0, .ref zs), (r0, 15, 1, .ref zn), (r0, 15, 2, .ref za), (r0, 15, 3, .ref zb), (r0, 15, 4, .ref zc), (r0, 15, 14, .ref zy)]) [0, 1, 2, 3, 4, 5, 6, 7, 8, 10, 11, 12, 13, 14, 15, 16, 17, 18, 19, 20] rfl rfl rfl dX13_declare_176 (fun H_22 locs_22 hh_22 => ?_)
              clear hh_21
              refine lv_aload_n hx hb dX13_declare_179 rfl (lv_at hl 1 rfl) ?_
              refine lv_iconst (v := 1) hx hb dX13_declare_180 (by decide) ?_
              refine j7_put hx hb hown hK hh_22 hB hAp hB15 (C := RX13) (T := TX13) (N := 50) rfl (by decide) hg_r0 (i := 21) (by decide) hly_15_21 rfl hlk_119 rfl (ty := .int) (v := .int 1) (by decide +kernel) rfl rfl (⟨_, rfl, by omega, by omega⟩) rfl (L1 := [(r0, 15, 20, .int r_8), (r0, 15, 19, .int name1_3), (r0, 15, 18, .int 1), (r0, 15, 5, .int qn_7), (r0, 15, 34, .int qu_7), (r0, 15, 36, .int qb_7), (r0, 15, 38, .int name1_3), (r0, 15, 11, .int py), (r0, 15, 15, .int pf), (r0, 15, 42, .int pr), (r0, 15, 17, .ref zf), (r0, 15, 22, .ref zg), (r0, 15, 25, .ref zh), (r0, 15, 27, .ref zp), (r0, 15, 0, .ref zs), (r0, 15, 1, .ref zn), (r0, 15, 2, .ref za), (r0, 15, 3, .ref zb), (r0, 15, 4, .ref zc), (r0, 15, 14, .ref zy)]) [0, 1, 2, 3, 4, 5, 6, 7, 8, 10, 11, 12, 13, 14, 15, 16, 17, 18, 19, 20] rfl rfl rfl dX13_declare_181 (fun H_23 locs_23 hh_23 => ?_)
              clear hh_22
              refine lv_aload_n hx hb dX13_declare_184 rfl (lv_at hl 1 rfl) ?_
              refine j7_read hx hb hown hK (C := RX13) (T := TX13) (N := 50) rfl hly_15_22 hlk_53 (hh_23.at 12 rfl) dX13_declare_185 ?_
              refine lv_iconst (v := 0) hx hb dX13_declare_188 (by decide) ?_
              refine lv_iload_n hx hb dX13_declare_189 rfl (lv_at hl 0 rfl) ?_
              refine j7_iastU hx hb hK hh_23 hB hB161 1 rfl (by decide) (by decide) rfl 7 rfl (M1 := [(zs, 150, 120000, ca 1, D_7.s), (zn, 151, 120000, ca 1, D_7.n), (za, 152, 120000, ca 1, D_7.a), (zb, 153, 120000, ca 1, D_7.b), (zc, 154, 120000, ca 1, D_7.c), (zy, 165, 16, ca 1, D_7.y), (zf, 160, 16, ca 1, ff), (zh, 159, 46, ca 1, fh), (zp, 162, 368, ca 1, fp), (zy, 165, 16, ca 1, C.y)]) [0, 1, 2, 3, 4, 5, 6, 8, 9, 10] rfl rfl rfl hg_zg (x := 0) ((by decide)) (by omega) (by first | omega | (refine ⟨?_, ?_⟩ <;> (first | omega | rfl | assumption | decide | exact Or.inl rfl | exact Or.inr rfl | (simp only; omega)))) dX13_declare_190 (fun H_24 locs_24 fs_25 hv_24 ho_24 hh_24 => ?_)
              have hv_24 : jSo fs_25 (0) = r_8.toInt := by unfold jSo; rw [hv_24]; try exact rfl
              clear hh_23
              refine lv_aload_n hx hb dX13_declare_191 rfl (lv_at hl 1 rfl) ?_
              obtain ⟨v_26, hv_26, hh_27⟩ := hh_24.pin (C := RX13) (T := TX13) (N := 50) hB15 rfl (by decide) hg_r0 (i := 23) (by decide) rfl
              clear hh_24
              obtain ⟨vars_28, rfl, hg_vars_28⟩ := hv_26
              refine j7_read hx hb hown hK (C := RX13) (T := TX13) (N := 50) rfl hly_15_23 hlk_56 (hh_27.at 0 rfl) dX13_declare_192 ?_
              refine lv_iconst (v := 0) hx hb dX13_declare_195 (by decide) ?_
              refine lv_iconst (v := 0) hx hb dX13_declare_196 (by decide) ?_
              refine j7_iast hx hb hK hh_27 hB hB158 1 rfl (by decide) (by decide) rfl rfl rfl hg_vars_28 (x := 0) ((by decide)) (by omega) (by first | omega | (refine ⟨?_, ?_⟩ <;> (first | omega | rfl | assumption | decide | exact Or.inl rfl | exact Or.inr rfl | (simp only; omega)))) dX13_declare_197 (fun H_29 locs_29 hh_29 => ?_)
              clear hh_27
              refine lv_aload_n hx hb dX13_declare_198 rfl (lv_at hl 1 rfl) ?_
              refine j7_read hx hb hown hK (C := RX13) (T := TX13) (N := 50) rfl hly_15_25 hlk_62 (hh_29.at 14 rfl) dX13_declare_199 ?_
              refine lv_iconst (v := 0) hx hb dX13_declare_202 (by decide) ?_
              refine lv_iconst (v := 0) hx hb dX13_declare_203 (by decide) ?_
              refine j7_iastU hx hb hK hh_29 hB hB159 1 rfl (by decide) (by decide) rfl 8 rfl (M1 := [(zg, 161, 46, ca 1, fs_25), (zs, 150, 120000, ca 1, D_7.s), (zn, 151, 120000, ca 1, D_7.n), (za, 152, 120000, ca 1, D_7.a), (zb, 153, 120000, ca 1, D_7.b), (zc, 154, 120000, ca 1, D_7.c), (zy, 165, 16, ca 1, D_7.y), (zf, 160, 16, ca 1, ff), (zp, 162, 368, ca 1, fp), (zy, 165, 16, ca 1, C.y)]) [0, 1, 2, 3, 4, 5, 6, 7, 9, 10] rfl rfl rfl hg_zh (x := 0) ((by decide)) (by omega) (by first | omega | (refine ⟨?_, ?_⟩ <;> (first | omega | rfl | assumption | decide | exact Or.inl rfl | exact Or.inr rfl | (simp only; omega)))) dX13_declare_204 (fun H_30 locs_30 fs_31 hv_30 ho_30 hh_30 => ?_)
              have hv_30 : jSo fs_31 (0) = 0 := by unfold jSo; rw [hv_30]; try exact (by decide)
              clear hh_29
              rw [hQ]
              exact W.vret hx hb hr (fun t ht hW => ⟨⟨(qn_7, qu_7, py, pf, 1, 1, r_8, ff, fs_25, fs_31, D_7), rfl, by
    try dsimp only
    obtain ⟨h1, h2, h3, h4, h5, h6, h7, h8, h9, h10⟩ := hp0.ag hr_8_4 (by omega)
    refine ⟨by omega, by omega, by omega, by omega, ⟨h1, h2, h3, h4, h5, by omega, by omega, h8, fun g q0 q1 => ?_, fun _ => hgd⟩⟩
    rw [show g = 0 by omega]
    refine ⟨by rw [hv_24]; exact hgd, by rw [hv_30]; omega, by rw [hv_30]; omega, fun k r0 r1 => ?_⟩
    rw [hv_30] at r1
    omega, ⟨hh_30.rt (M1 := [(r0, 15, 5, .int qn_7), (r0, 15, 34, .int qu_7), (r0, 15, 11, .int py), (r0, 15, 15, .int pf), (r0, 15, 21, .int 1), (r0, 15, 18, .int 1), (r0, 15, 20, .int r_8)]) [5, 6, 9, 10, 1, 4, 2] rfl ht, by rw [ht]; exact hh_30.2.2.2.2.2.2.2.1.sub [8, 1, 0, 2, 3, 4, 5, 6, 7] rfl⟩⟩, by rw [ht]; try exact hh_30.1.1, fun q h9 hq => by rw [ht]; try exact hh_30.1.2.1 q h9 hq⟩) hh_30.1.2.2 dX13_declare_205
            · skip
              have c_19' : a1.toInt = 2 := jb_ne_n (rfl) ((by decide)) c_19
              refine lv_aload_n hx hb dX13_declare_151 rfl (lv_at hl 1 rfl) ?_
              refine lv_aload_n hx hb dX13_declare_152 rfl (lv_at hl 1 rfl) ?_
              refine j7_read hx hb hown hK (C := RX13) (T := TX13) (N := 50) rfl hly_15_38 hlk_291 (hh_11.at 3 rfl) dX13_declare_153 ?_
              refine lv_iload_n hx hb dX13_declare_156 rfl (lv_at hl 0 rfl) ?_
              refine va_callv (A0 := jA base) (H0 := s.heap) (va_runV (As := [.int name1_3, .int r_8]) (rest := []) ⟨hx, hb, hml, hown, hts⟩ (uX13_addFactK l dC dI ca base B hB hAp hB15 hB160 hB163 G0 H_11 r0 name1_3 r_8 pf zf ff) (cwV 2 hts (jgV (jWr_65 _ (List.mem_of_getElem? (i := 23) rfl)) (jWr_66 _ (List.mem_of_getElem? (i := 0) rfl)) (jWr_66 _ (List.mem_of_getElem? (i := 1) rfl)) (jWr_12 _ (List.mem_of_getElem? (i := 12) rfl)) (jWr_66 _ (List.mem_of_getElem? (i := 2) rfl))) rfl rfl rfl (by decide +kernel) ⟨by rw [← hR]; exact Nat.le_of_ble_eq_true rfl, by rw [← hR]; exact Nat.le_of_ble_eq_true rfl⟩) ⟨fun a U g mk q => by obtain ⟨q0, q1, q2, qK, q10, q11, q12, q13, q14⟩ := q; exact ⟨q0, q1, q2, jG.calling g mk a qK, q10, q11, q12, q13, q14⟩, hh_11.recv (C := RX13) (T := TX13) (N := 50) hB15 rfl (by decide) hg_r0 hK, fun U hU hW => ⟨rfl, hU, hh_11.2.1, hG.step hW hU hh_11.1, hg_r0, hg_zf, (hh_11.2.2.1.sub (L1 := [(r0, 15, 15, .int pf), (r0, 15, 17, .ref zf)]) [5, 10] rfl), (hh_11.2.2.2.2.2.2.2.1.sub (L1 := [(zf, 160, 16, ca 1, ff)]) [6] rfl), by first | omega | (refine ⟨?_, ?_, ?_, ?_, ?_, ?_⟩ <;> (first | omega | rfl | assumption | decide | exact Or.inl rfl | exact Or.inr rfl | (simp only; omega)))⟩⟩ rfl rfl hl.1 rfl (lv_room (Nat.le_of_ble_eq_true rfl)) dX13_declare_157 ⟨Nat.zero_le _, Nat.zero_le _⟩) hh_11.1 (fun q _ h => h) (fun q h => h) (fun u_32 t_32 H_32 locs_32 ht_32 hvm_32 hr_33 hb_32 hz_32 hk_32 hS_32 => ?_)
              obtain ⟨qf_32, gf_32⟩ := u_32
              rw [ht_32] at hb_32
              obtain ⟨⟨hb_321, hb_322, hb_323, hb_324, hb_325⟩, hb_326⟩ := hb_32
              have hh_32 : jSt (dC, dI) B base G0 G0 EX13_declare s.heap 0 0 [(r0, 15, 15, .int qf_32), (r0, 15, 5, .int qn_7), (r0, 15, 34, .int qu_7), (r0, 15, 36, .int qb_7), (r0, 15, 38, .int name1_3), (r0, 15, 11, .int py), (r0, 15, 21, .int pg), (r0, 15, 18, .int pp), (r0, 15, 20, .int pl), (r0, 15, 42, .int pr), (r0, 15, 17, .ref zf), (r0, 15, 22, .ref zg), (r0, 15, 25, .ref zh), (r0, 15, 27, .ref zp), (r0, 15, 0, .ref zs), (r0, 15, 1, .ref zn), (r0, 15, 2, .ref za), (r0, 15, 3, .ref zb), (r0, 15, 4, .ref zc), (r0, 15, 14, .ref zy)] [(zf, 160, 16, ca 1, gf_32), (zs, 150, 120000, ca 1, D_7.s), (zn, 151, 120000, ca 1, D_7.n), (za, 152, 120000, ca 1, D_7.a), (zb, 153, 120000, ca 1, D_7.b), (zc, 154, 120000, ca 1, D_7.c), (zy, 165, 16, ca 1, D_7.y), (zg, 161, 46, ca 1, fg), (zh, 159, 46, ca 1, fh), (zp, 162, 368, ca 1, fp), (zy, 165, 16, ca 1, C.y)] [] H_32 locs_32 := ((hh_11.call hb_321 hb_322 hb_323 hb_324 hS_32 rfl (L1 := [(r0, 15, 5, .int qn_7), (r0, 15, 34, .int qu_7), (r0, 15, 36, .int qb_7), (r0, 15, 38, .int name1_3), (r0, 15, 11, .int py), (r0, 15, 21, .int pg), (r0, 15, 18, .int pp), (r0, 15, 20, .int pl), (r0, 15, 42, .int pr), (r0, 15, 17, .ref zf), (r0, 15, 22, .ref zg), (r0, 15, 25, .ref zh), (r0, 15, 27, .ref zp), (r0, 15, 0, .ref zs), (r0, 15, 1, .ref zn), (r0, 15, 2, .ref za), (r0, 15, 3, .ref zb), (r0, 15, 4, .ref zc), (r0, 15, 14, .ref zy)]) [0, 1, 2, 3, 4, 6, 7, 8, 9, 10, 11, 12, 13, 14, 15, 16, 17, 18, 19] rfl rfl (M1 := [(zs, 150, 120000, ca 1, D_7.s), (zn, 151, 120000, ca 1, D_7.n), (za, 152, 120000, ca 1, D_7.a), (zb, 153, 120000, ca 1, D_7.b), (zc, 154, 120000, ca 1, D_7.c), (zy, 165, 16, ca 1, D_7.y), (zg, 161, 46, ca 1, fg), (zh, 159, 46, ca 1, fh), (zp, 162, 368, ca 1, fp), (zy, 165, 16, ca 1, C.y)]) [0, 1, 2, 3, 4, 5, 7, 8, 9, 10] rfl rfl (I1 := []) [] rfl rfl).more hb_325).moreM hb_326
              clear hh_11 ht_32 hvm_32 hz_32 hk_32 hS_32 hb_321 hb_322 hb_323 hb_324 hb_325
              clear hb_326
              try simp only at hr_33
              obtain ⟨hr_33_0, hr_33_1⟩ := hr_33
              rw [hQ]
              exact W.vret hx hb hr (fun t ht hW => ⟨⟨(qn_7, qu_7, py, qf_32, pg, pp, pl, gf_32, fg, fh, D_7), rfl, by
    try dsimp only
    obtain ⟨h1, h2, h3, h4, h5, h6, h7, h8, h9, h10⟩ := hp0.ag hr_8_4 (by omega)
    exact ⟨by omega, by omega, by omega, by omega, ⟨h1, h2, h3, by omega, by omega, h6, h7, h8.add hr_33_1 hgd (by omega) (by omega), h9, h10⟩⟩, ⟨hh_32.rt (M1 := [(r0, 15, 5, .int qn_7), (r0, 15, 34, .int qu_7), (r0, 15, 11, .int py), (r0, 15, 15, .int qf_32), (r0, 15, 21, .int pg), (r0, 15, 18, .int pp), (r0, 15, 20, .int pl)]) [1, 2, 5, 0, 6, 7, 8] rfl ht, by rw [ht]; exact hh_32.2.2.2.2.2.2.2.1.sub [0, 7, 8, 1, 2, 3, 4, 5, 6] rfl⟩⟩, by rw [ht]; try exact hh_32.1.1, fun q h9 hq => by rw [ht]; try exact hh_32.1.2.1 q h9 hq⟩) hh_32.1.2.2 dX13_declare_160
          · skip
            have c_18' : qu_7.toInt > 0 := jb_le_n (rfl) ((by decide)) c_18
            rw [hQ]
            exact W.vret hx hb hr (fun t ht hW => ⟨⟨(qn_7, qu_7, py, pf, pg, pp, pl, ff, fg, fh, D_7), rfl, by (try dsimp only); exact ⟨by omega, by omega, by omega, by omega, hp0.ag hr_8_4 (by omega)⟩, ⟨hh_11.rt (M1 := [(r0, 15, 5, .int qn_7), (r0, 15, 34, .int qu_7), (r0, 15, 11, .int py), (r0, 15, 15, .int pf), (r0, 15, 21, .int pg), (r0, 15, 18, .int pp), (r0, 15, 20, .int pl)]) [0, 1, 4, 5, 6, 7, 8] rfl ht, by rw [ht]; exact hh_11.2.2.2.2.2.2.2.1.sub [6, 7, 8, 0, 1, 2, 3, 4, 5] rfl⟩⟩, by rw [ht]; try exact hh_11.1.1, fun q h9 hq => by rw [ht]; try exact hh_11.1.2.1 q h9 hq⟩) hh_11.1.2.2 dX13_declare_145
        · skip
          have c_17' : a1.toInt = 2 := jb_ne_n (rfl) ((by decide)) c_17
          refine lv_aload_n hx hb dX13_declare_123 rfl (lv_at hl 1 rfl) ?_
          refine j7_read hx hb hown hK (C := RX13) (T := TX13) (N := 50) rfl hly_15_15 hlk_112 (hh_11.at 5 rfl) dX13_declare_124 ?_
          refine lv_bipush (v := 16) hx hb dX13_declare_127 (by decide) ?_
          refine lv_icmp_ne (tgt := 138) hx hb dX13_declare_129 (by decide) (fun c_34 => ?_) (fun c_34 => ?_)
          · skip
            have c_34' : pf.toInt ≠ 16 := jb_ne (rfl) ((by decide)) c_34
            refine lv_aload_n hx hb dX13_declare_138 rfl (lv_at hl 1 rfl) ?_
            refine j7_read hx hb hown hK (C := RX13) (T := TX13) (N := 50) rfl hly_15_34 hlk_221 (hh_11.at 1 rfl) dX13_declare_139 ?_
            refine lv_if_le (tgt := 146) hx hb dX13_declare_142 (by decide) (fun c_35 => ?_) (fun c_35 => ?_)
            · skip
              have c_35' : qu_7.toInt ≤ 0 := jb_le (rfl) ((by decide)) c_35
              have hgd : jG1 D_7 qn_7.toInt py.toInt r_8.toInt := jG1.of (hf1.mono (d1 := 1523) (b1 := 0) (by omega) (by omega)) (by omega) (by omega)
              refine lv_iload_n hx hb dX13_declare_146 rfl (lv_at hl 2 rfl) ?_
              refine lv_iconst (v := 2) hx hb dX13_declare_147 (by decide) ?_
              refine lv_icmp_ne (tgt := 161) hx hb dX13_declare_148 (by decide) (fun c_36 => ?_) (fun c_36 => ?_)
              · skip
                have c_36' : a1.toInt ≠ 2 := jb_ne (rfl) ((by decide)) c_36
                refine lv_aload_n hx hb dX13_declare_161 rfl (lv_at hl 1 rfl) ?_
                refine lv_iconst (v := 1) hx hb dX13_declare_162 (by decide) ?_
                refine j7_put hx hb hown hK hh_11 hB hAp hB15 (C := RX13) (T := TX13) (N := 50) rfl (by decide) hg_r0 (i := 18) (by decide) hly_15_18 rfl hlk_115 rfl (ty := .boolean) (v := .int 1) (by decide +kernel) (jb_nz (Or.inr rfl)) (jb_fz (Or.inr rfl)) (⟨_, rfl, (Or.inr rfl)⟩) rfl (L1 := [(r0, 15, 5, .int qn_7), (r0, 15, 34, .int qu_7), (r0, 15, 36, .int qb_7), (r0, 15, 38, .int name1_3), (r0, 15, 11, .int py), (r0, 15, 15, .int pf), (r0, 15, 21, .int pg), (r0, 15, 20, .int pl), (r0, 15, 42, .int pr), (r0, 15, 17, .ref zf), (r0, 15, 22, .ref zg), (r0, 15, 25, .ref zh), (r0, 15, 27, .ref zp), (r0, 15, 0, .ref zs), (r0, 15, 1, .ref zn), (r0, 15, 2, .ref za), (r0, 15, 3, .ref zb), (r0, 15, 4, .ref zc), (r0, 15, 14, .ref zy)]) [0, 1, 2, 3, 4, 5, 6, 8, 9, 10, 11, 12, 13, 14, 15, 16, 17, 18, 19] rfl rfl rfl dX13_declare_163 (fun H_37 locs_37 hh_37 => ?_)
                clear hh_11
                refine lv_aload_n hx hb dX13_declare_166 rfl (lv_at hl 1 rfl) ?_
                refine lv_aload_n hx hb dX13_declare_167 rfl (lv_at hl 1 rfl) ?_
                refine j7_read hx hb hown hK (C := RX13) (T := TX13) (N := 50) rfl hly_15_38 hlk_291 (hh_37.at 4 rfl) dX13_declare_168 ?_
                refine j7_put hx hb hown hK hh_37 hB hAp hB15 (C := RX13) (T := TX13) (N := 50) rfl (by decide) hg_r0 (i := 19) (by decide) hly_15_19 rfl hlk_330 rfl (ty := .int) (v := .int name1_3) (by decide +kernel) rfl rfl (⟨_, rfl, by omega, by omega⟩) rfl (L1 := [(r0, 15, 18, .int 1), (r0, 15, 5, .int qn_7), (r0, 15, 34, .int qu_7), (r0, 15, 36, .int qb_7), (r0, 15, 38, .int name1_3), (r0, 15, 11, .int py), (r0, 15, 15, .int pf), (r0, 15, 21, .int pg), (r0, 15, 20, .int pl), (r0, 15, 42, .int pr), (r0, 15, 17, .ref zf), (r0, 15, 22, .ref zg), (r0, 15, 25, .ref zh), (r0, 15, 27, .ref zp), (r0, 15, 0, .ref zs), (r0, 15, 1, .ref zn), (r0, 15, 2, .ref za), (r0, 15, 3, .ref zb), (r0, 15, 4, .ref zc), (r0, 15, 14, .ref zy)]) [0, 1, 2, 3, 4, 5, 6, 7, 8, 9, 10, 11, 12, 13, 14, 15, 16, 17, 18, 19] rfl rfl rfl dX13_declare_171 (fun H_38 locs_38 hh_38 => ?_)
                clear hh_37
                refine lv_aload_n hx hb dX13_declare_174 rfl (lv_at hl 1 rfl) ?_
                refine lv_iload_n hx hb dX13_declare_175 rfl (lv_at hl 0 rfl) ?_
                refine j7_put hx hb hown hK hh_38 hB hAp hB15 (C := RX13) (T := TX13) (N := 50) rfl (by decide) hg_r0 (i := 20) (by decide) hly_15_20 rfl hlk_333 rfl (ty := .int) (v := .int r_8) (by decide +kernel) rfl rfl (⟨_, rfl, by omega, by omega⟩) rfl (L1 := [(r0, 15, 19, .int name1_3), (r0, 15, 18, .int 1), (r0, 15, 5, .int qn_7), (r0, 15, 34, .int qu_7), (r0, 15, 36, .int qb_7), (r0, 15, 38, .int name1_3), (r0, 15, 11, .int py), (r0, 15, 15, .int pf), (r0, 15, 21, .int pg), (r0, 15, 42, .int pr), (r0, 15, 17, .ref zf), (r0, 15, 22, .ref zg), (r0, 15, 25, .ref zh), (r0, 15, 27, .ref zp), (r0, 15, 0, .ref zs), (r0, 15, 1, .ref zn), (r0, 15, 2, .ref za), (r0, 15, 3, .ref zb), (r0, 15, 4, .ref zc), (r0, 15, 14, .ref zy)]) [0, 1, 2, 3, 4, 5, 6, 7, 8, 10, 11, 12, 13, 14, 15, 16, 17, 18, 19, 20] rfl rfl rfl dX13_declare_176 (fun H_39 locs_39 hh_39 => ?_)
                clear hh_38
                refine lv_aload_n hx hb dX13_declare_179 rfl (lv_at hl 1 rfl) ?_
                refine lv_iconst (v := 1) hx hb dX13_declare_180 (by decide) ?_
                refine j7_put hx hb hown hK hh_39 hB hAp hB15 (C := RX13) (T := TX13) (N := 50) rfl (by decide) hg_r0 (i := 21) (by decide) hly_15_21 rfl hlk_119 rfl (ty := .int) (v := .int 1) (by decide +kernel) rfl rfl (⟨_, rfl, by omega, by omega⟩) rfl (L1 := [(r0, 15, 20, .int r_8), (r0, 15, 19, .int name1_3), (r0, 15, 18, .int 1), (r0, 15, 5, .int qn_7), (r0, 15, 34, .int qu_7), (r0, 15, 36, .int qb_7), (r0, 15, 38, .int name1_3), (r0, 15, 11, .int py), (r0, 15, 15, .int pf), (r0, 15, 42, .int pr), (r0, 15, 17, .ref zf), (r0, 15, 22, .ref zg), (r0, 15, 25, .ref zh), (r0, 15, 27, .ref zp), (r0, 15, 0, .ref zs), (r0, 15, 1, .ref zn), (r0, 15, 2, .ref za), (r0, 15, 3, .ref zb), (r0, 15, 4, .ref zc), (r0, 15, 14, .ref zy)]) [0, 1, 2, 3, 4, 5, 6, 7, 8, 10, 11, 12, 13, 14, 15, 16, 17, 18, 19, 20] rfl rfl rfl dX13_declare_181 (fun H_40 locs_40 hh_40 => ?_)
                clear hh_39
                refine lv_aload_n hx hb dX13_declare_184 rfl (lv_at hl 1 rfl) ?_
                refine j7_read hx hb hown hK (C := RX13) (T := TX13) (N := 50) rfl hly_15_22 hlk_53 (hh_40.at 12 rfl) dX13_declare_185 ?_
                refine lv_iconst (v := 0) hx hb dX13_declare_188 (by decide) ?_
                refine lv_iload_n hx hb dX13_declare_189 rfl (lv_at hl 0 rfl) ?_
                refine j7_iastU hx hb hK hh_40 hB hB161 1 rfl (by decide) (by decide) rfl 7 rfl (M1 := [(zs, 150, 120000, ca 1, D_7.s), (zn, 151, 120000, ca 1, D_7.n), (za, 152, 120000, ca 1, D_7.a), (zb, 153, 120000, ca 1, D_7.b), (zc, 154, 120000, ca 1, D_7.c), (zy, 165, 16, ca 1, D_7.y), (zf, 160, 16, ca 1, ff), (zh, 159, 46, ca 1, fh), (zp, 162, 368, ca 1, fp), (zy, 165, 16, ca 1, C.y)]) [0, 1, 2, 3, 4, 5, 6, 8, 9, 10] rfl rfl rfl hg_zg (x := 0) ((by decide)) (by omega) (by first | omega | (refine ⟨?_, ?_⟩ <;> (first | omega | rfl | assumption | decide | exact Or.inl rfl | exact Or.inr rfl | (simp only; omega)))) dX13_declare_190 (fun H_41 locs_41 fs_42 hv_41 ho_41 hh_41 => ?_)
                have hv_41 : jSo fs_42 (0) = r_8.toInt := by unfold jSo; rw [hv_41]; try exact rfl
                clear hh_40
                refine lv_aload_n hx hb dX13_declare_191 rfl (lv_at hl 1 rfl) ?_
                obtain ⟨v_43, hv_43, hh_44⟩ := hh_41.pin (C := RX13) (T := TX13) (N := 50) hB15 rfl (by decide) hg_r0 (i := 23) (by decide) rfl
                clear hh_41
                obtain ⟨vars_45, rfl, hg_vars_45⟩ := hv_43
                refine j7_read hx hb hown hK (C := RX13) (T := TX13) (N := 50) rfl hly_15_23 hlk_56 (hh_44.at 0 rfl) dX13_declare_192 ?_
                refine lv_iconst (v := 0) hx hb dX13_declare_195 (by decide) ?_
                refine lv_iconst (v := 0) hx hb dX13_declare_196 (by decide) ?_
                refine j7_iast hx hb hK hh_44 hB hB158 1 rfl (by decide) (by decide) rfl rfl rfl hg_vars_45 (x := 0) ((by decide)) (by omega) (by first | omega | (refine ⟨?_, ?_⟩ <;> (first | omega | rfl | assumption | decide | exact Or.inl rfl | exact Or.inr rfl | (simp only; omega)))) dX13_declare_197 (fun H_46 locs_46 hh_46 => ?_)
                clear hh_44
                refine lv_aload_n hx hb dX13_declare_198 rfl (lv_at hl 1 rfl) ?_
                refine j7_read hx hb hown hK (C := RX13) (T := TX13) (N := 50) rfl hly_15_25 hlk_62 (hh_46.at 14 rfl) dX13_declare_199 ?_
                refine lv_iconst (v := 0) hx hb dX13_declare_202 (by decide) ?_
                refine lv_iconst (v := 0) hx hb dX13_declare_203 (by decide) ?_
                refine j7_iastU hx hb hK hh_46 hB hB159 1 rfl (by decide) (by decide) rfl 8 rfl (M1 := [(zg, 161, 46, ca 1, fs_42), (zs, 150, 120000, ca 1, D_7.s), (zn, 151, 120000, ca 1, D_7.n), (za, 152, 120000, ca 1, D_7.a), (zb, 153, 120000, ca 1, D_7.b), (zc, 154, 120000, ca 1, D_7.c), (zy, 165, 16, ca 1, D_7.y), (zf, 160, 16, ca 1, ff), (zp, 162, 368, ca 1, fp), (zy, 165, 16, ca 1, C.y)]) [0, 1, 2, 3, 4, 5, 6, 7, 9, 10] rfl rfl rfl hg_zh (x := 0) ((by decide)) (by omega) (by first | omega | (refine ⟨?_, ?_⟩ <;> (first | omega | rfl | assumption | decide | exact Or.inl rfl | exact Or.inr rfl | (simp only; omega)))) dX13_declare_204 (fun H_47 locs_47 fs_48 hv_47 ho_47 hh_47 => ?_)
                have hv_47 : jSo fs_48 (0) = 0 := by unfold jSo; rw [hv_47]; try exact (by decide)
                clear hh_46
                rw [hQ]
                exact W.vret hx hb hr (fun t ht hW => ⟨⟨(qn_7, qu_7, py, pf, 1, 1, r_8, ff, fs_42, fs_48, D_7), rfl, by
    try dsimp only
    obtain ⟨h1, h2, h3, h4, h5, h6, h7, h8, h9, h10⟩ := hp0.ag hr_8_4 (by omega)
    refine ⟨by omega, by omega, by omega, by omega, ⟨h1, h2, h3, h4, h5, by omega, by omega, h8, fun g q0 q1 => ?_, fun _ => hgd⟩⟩
    rw [show g = 0 by omega]
    refine ⟨by rw [hv_41]; exact hgd, by rw [hv_47]; omega, by rw [hv_47]; omega, fun k r0 r1 => ?_⟩
    rw [hv_47] at r1
    omega, ⟨hh_47.rt (M1 := [(r0, 15, 5, .int qn_7), (r0, 15, 34, .int qu_7), (r0, 15, 11, .int py), (r0, 15, 15, .int pf), (r0, 15, 21, .int 1), (r0, 15, 18, .int 1), (r0, 15, 20, .int r_8)]) [5, 6, 9, 10, 1, 4, 2] rfl ht, by rw [ht]; exact hh_47.2.2.2.2.2.2.2.1.sub [8, 1, 0, 2, 3, 4, 5, 6, 7] rfl⟩⟩, by rw [ht]; try exact hh_47.1.1, fun q h9 hq => by rw [ht]; try exact hh_47.1.2.1 q h9 hq⟩) hh_47.1.2.2 dX13_declare_205
              · skip
                have c_36' : a1.toInt = 2 := jb_ne_n (rfl) ((by decide)) c_36
                refine lv_aload_n hx hb dX13_declare_151 rfl (lv_at hl 1 rfl) ?_
                refine lv_aload_n hx hb dX13_declare_152 rfl (lv_at hl 1 rfl) ?_
                refine j7_read hx hb hown hK (C := RX13) (T := TX13) (N := 50) rfl hly_15_38 hlk_291 (hh_11.at 3 rfl) dX13_declare_153 ?_
                refine lv_iload_n hx hb dX13_declare_156 rfl (lv_at hl 0 rfl) ?_
                refine va_callv (A0 := jA base) (H0 := s.heap) (va_runV (As := [.int name1_3, .int r_8]) (rest := []) ⟨hx, hb, hml, hown, hts⟩ (uX13_addFactK l dC dI ca base B hB hAp hB15 hB160 hB163 G0 H_11 r0 name1_3 r_8 pf zf ff) (cwV 2 hts (jgV (jWr_65 _ (List.mem_of_getElem? (i := 23) rfl)) (jWr_66 _ (List.mem_of_getElem? (i := 0) rfl)) (jWr_66 _ (List.mem_of_getElem? (i := 1) rfl)) (jWr_12 _ (List.mem_of_getElem? (i := 12) rfl)) (jWr_66 _ (List.mem_of_getElem? (i := 2) rfl))) rfl rfl rfl (by decide +kernel) ⟨by rw [← hR]; exact Nat.le_of_ble_eq_true rfl, by rw [← hR]; exact Nat.le_of_ble_eq_true rfl⟩) ⟨fun a U g mk q => by obtain ⟨q0, q1, q2, qK, q10, q11, q12, q13, q14⟩ := q; exact ⟨q0, q1, q2, jG.calling g mk a qK, q10, q11, q12, q13, q14⟩, hh_11.recv (C := RX13) (T := TX13) (N := 50) hB15 rfl (by decide) hg_r0 hK, fun U hU hW => ⟨rfl, hU, hh_11.2.1, hG.step hW hU hh_11.1, hg_r0, hg_zf, (hh_11.2.2.1.sub (L1 := [(r0, 15, 15, .int pf), (r0, 15, 17, .ref zf)]) [5, 10] rfl), (hh_11.2.2.2.2.2.2.2.1.sub (L1 := [(zf, 160, 16, ca 1, ff)]) [6] rfl), by first | omega | (refine ⟨?_, ?_, ?_, ?_, ?_, ?_⟩ <;> (first | omega | rfl | assumption | decide | exact Or.inl rfl | exact Or.inr rfl | (simp only; omega)))⟩⟩ rfl rfl hl.1 rfl (lv_room (Nat.le_of_ble_eq_true rfl)) dX13_declare_157 ⟨Nat.zero_le _, Nat.zero_le _⟩) hh_11.1 (fun q _ h => h) (fun q h => h) (fun u_49 t_49 H_49 locs_49 ht_49 hvm_49 hr_50 hb_49 hz_49 hk_49 hS_49 => ?_)
                obtain ⟨qf_49, gf_49⟩ := u_49
                rw [ht_49] at hb_49
                obtain ⟨⟨hb_491, hb_492, hb_493, hb_494, hb_495⟩, hb_496⟩ := hb_49
                have hh_49 : jSt (dC, dI) B base G0 G0 EX13_declare s.heap 0 0 [(r0, 15, 15, .int qf_49), (r0, 15, 5, .int qn_7), (r0, 15, 34, .int qu_7), (r0, 15, 36, .int qb_7), (r0, 15, 38, .int name1_3), (r0, 15, 11, .int py), (r0, 15, 21, .int pg), (r0, 15, 18, .int pp), (r0, 15, 20, .int pl), (r0, 15, 42, .int pr), (r0, 15, 17, .ref zf), (r0, 15, 22, .ref zg), (r0, 15, 25, .ref zh), (r0, 15, 27, .ref zp), (r0, 15, 0, .ref zs), (r0, 15, 1, .ref zn), (r0, 15, 2, .ref za), (r0, 15, 3, .ref zb), (r0, 15, 4, .ref zc), (r0, 15, 14, .ref zy)] [(zf, 160, 16, ca 1, gf_49), (zs, 150, 120000, ca 1, D_7.s), (zn, 151, 120000, ca 1, D_7.n), (za, 152, 120000, ca 1, D_7.a), (zb, 153, 120000, ca 1, D_7.b), (zc, 154, 120000, ca 1, D_7.c), (zy, 165, 16, ca 1, D_7.y), (zg, 161, 46, ca 1, fg), (zh, 159, 46, ca 1, fh), (zp, 162, 368, ca 1, fp), (zy, 165, 16, ca 1, C.y)] [] H_49 locs_49 := ((hh_11.call hb_491 hb_492 hb_493 hb_494 hS_49 rfl (L1 := [(r0, 15, 5, .int qn_7), (r0, 15, 34, .int qu_7), (r0, 15, 36, .int qb_7), (r0, 15, 38, .int name1_3), (r0, 15, 11, .int py), (r0, 15, 21, .int pg), (r0, 15, 18, .int pp), (r0, 15, 20, .int pl), (r0, 15, 42, .int pr), (r0, 15, 17, .ref zf), (r0, 15, 22, .ref zg), (r0, 15, 25, .ref zh), (r0, 15, 27, .ref zp), (r0, 15, 0, .ref zs), (r0, 15, 1, .ref zn), (r0, 15, 2, .ref za), (r0, 15, 3, .ref zb), (r0, 15, 4, .ref zc), (r0, 15, 14, .ref zy)]) [0, 1, 2, 3, 4, 6, 7, 8, 9, 10, 11, 12, 13, 14, 15, 16, 17, 18, 19] rfl rfl (M1 := [(zs, 150, 120000, ca 1, D_7.s), (zn, 151, 120000, ca 1, D_7.n), (za, 152, 120000, ca 1, D_7.a), (zb, 153, 120000, ca 1, D_7.b), (zc, 154, 120000, ca 1, D_7.c), (zy, 165, 16, ca 1, D_7.y), (zg, 161, 46, ca 1, fg), (zh, 159, 46, ca 1, fh), (zp, 162, 368, ca 1, fp), (zy, 165, 16, ca 1, C.y)]) [0, 1, 2, 3, 4, 5, 7, 8, 9, 10] rfl rfl (I1 := []) [] rfl rfl).more hb_495).moreM hb_496
                clear hh_11 ht_49 hvm_49 hz_49 hk_49 hS_49 hb_491 hb_492 hb_493 hb_494 hb_495
                clear hb_496
                try simp only at hr_50
                obtain ⟨hr_50_0, hr_50_1⟩ := hr_50
                rw [hQ]
                exact W.vret hx hb hr (fun t ht hW => ⟨⟨(qn_7, qu_7, py, qf_49, pg, pp, pl, gf_49, fg, fh, D_7), rfl, by
    try dsimp only
    obtain ⟨h1, h2, h3, h4, h5, h6, h7, h8, h9, h10⟩ := hp0.ag hr_8_4 (by omega)
    exact ⟨by omega, by omega, by omega, by omega, ⟨h1, h2, h3, by omega, by omega, h6, h7, h8.add hr_50_1 hgd (by omega) (by omega), h9, h10⟩⟩, ⟨hh_49.rt (M1 := [(r0, 15, 5, .int qn_7), (r0, 15, 34, .int qu_7), (r0, 15, 11, .int py), (r0, 15, 15, .int qf_49), (r0, 15, 21, .int pg), (r0, 15, 18, .int pp), (r0, 15, 20, .int pl)]) [1, 2, 5, 0, 6, 7, 8] rfl ht, by rw [ht]; exact hh_49.2.2.2.2.2.2.2.1.sub [0, 7, 8, 1, 2, 3, 4, 5, 6] rfl⟩⟩, by rw [ht]; try exact hh_49.1.1, fun q h9 hq => by rw [ht]; try exact hh_49.1.2.1 q h9 hq⟩) hh_49.1.2.2 dX13_declare_160
            · skip
              have c_35' : qu_7.toInt > 0 := jb_le_n (rfl) ((by decide)) c_35
              rw [hQ]
              exact W.vret hx hb hr (fun t ht hW => ⟨⟨(qn_7, qu_7, py, pf, pg, pp, pl, ff, fg, fh, D_7), rfl, by (try dsimp only); exact ⟨by omega, by omega, by omega, by omega, hp0.ag hr_8_4 (by omega)⟩, ⟨hh_11.rt (M1 := [(r0, 15, 5, .int qn_7), (r0, 15, 34, .int qu_7), (r0, 15, 11, .int py), (r0, 15, 15, .int pf), (r0, 15, 21, .int pg), (r0, 15, 18, .int pp), (r0, 15, 20, .int pl)]) [0, 1, 4, 5, 6, 7, 8] rfl ht, by rw [ht]; exact hh_11.2.2.2.2.2.2.2.1.sub [6, 7, 8, 0, 1, 2, 3, 4, 5] rfl⟩⟩, by rw [ht]; try exact hh_11.1.1, fun q h9 hq => by rw [ht]; try exact hh_11.1.2.1 q h9 hq⟩) hh_11.1.2.2 dX13_declare_145
          · skip
            have c_34' : pf.toInt = 16 := jb_ne_n (rfl) ((by decide)) c_34
            refine lv_aload_n hx hb dX13_declare_132 rfl (lv_at hl 1 rfl) ?_
            refine lv_bipush (v := 9) hx hb dX13_declare_133 (by decide) ?_
            refine va_callv (A0 := jA base) (H0 := s.heap) (va_runV (As := [.int 9]) (rest := []) ⟨hx, hb, hml, hown, hts⟩ (uX13_failsK l dC dI ca base B hB hAp hB15 G0 H_11 r0 9 qu_7) (cwV 1 hts (jgV (jWr_64 _ (List.mem_of_getElem? (i := 19) rfl)) (jWr_64 _ (List.mem_of_getElem? (i := 20) rfl)) (jWr_64 _ (List.mem_of_getElem? (i := 21) rfl)) (jWr_12 _ (List.mem_of_getElem? (i := 12) rfl)) (jWr_64 _ (List.mem_of_getElem? (i := 22) rfl))) rfl rfl rfl (by decide +kernel) ⟨by rw [← hR]; exact Nat.le_of_ble_eq_true rfl, by rw [← hR]; exact Nat.le_of_ble_eq_true rfl⟩) ⟨fun a U g mk q => by obtain ⟨q0, q1, q2, qK, q10, q11, q12⟩ := q; exact ⟨q0, q1, q2, jG.calling g mk a qK, q10, q11, q12⟩, hh_11.recv (C := RX13) (T := TX13) (N := 50) hB15 rfl (by decide) hg_r0 hK, fun U hU hW => ⟨rfl, hU, hh_11.2.1, hG.step hW hU hh_11.1, hg_r0, (hh_11.2.2.1.sub (L1 := [(r0, 15, 34, .int qu_7)]) [1] rfl), by first | omega | (refine ⟨?_, ?_, ?_, ?_⟩ <;> (first | omega | rfl | assumption | decide | exact Or.inl rfl | exact Or.inr rfl | (simp only; omega)))⟩⟩ rfl rfl hl.1 rfl (lv_room (Nat.le_of_ble_eq_true rfl)) dX13_declare_135 ⟨Nat.zero_le _, Nat.zero_le _⟩) hh_11.1 (fun q _ h => h) (fun q h => h) (fun u_51 t_51 H_51 locs_51 ht_51 hvm_51 hr_52 hb_51 hz_51 hk_51 hS_51 => ?_)
            obtain ⟨qu_51, rfl⟩ : ∃ z, z = u_51 := ⟨_, rfl⟩
            rw [ht_51] at hb_51
            obtain ⟨hb_511, hb_512, hb_513, hb_514, hb_515⟩ := hb_51
            have hh_51 : jSt (dC, dI) B base G0 G0 EX13_declare s.heap 0 0 [(r0, 15, 34, .int qu_51), (r0, 15, 5, .int qn_7), (r0, 15, 36, .int qb_7), (r0, 15, 38, .int name1_3), (r0, 15, 11, .int py), (r0, 15, 15, .int pf), (r0, 15, 21, .int pg), (r0, 15, 18, .int pp), (r0, 15, 20, .int pl), (r0, 15, 42, .int pr), (r0, 15, 17, .ref zf), (r0, 15, 22, .ref zg), (r0, 15, 25, .ref zh), (r0, 15, 27, .ref zp), (r0, 15, 0, .ref zs), (r0, 15, 1, .ref zn), (r0, 15, 2, .ref za), (r0, 15, 3, .ref zb), (r0, 15, 4, .ref zc), (r0, 15, 14, .ref zy)] [(zs, 150, 120000, ca 1, D_7.s), (zn, 151, 120000, ca 1, D_7.n), (za, 152, 120000, ca 1, D_7.a), (zb, 153, 120000, ca 1, D_7.b), (zc, 154, 120000, ca 1, D_7.c), (zy, 165, 16, ca 1, D_7.y), (zf, 160, 16, ca 1, ff), (zg, 161, 46, ca 1, fg), (zh, 159, 46, ca 1, fh), (zp, 162, 368, ca 1, fp), (zy, 165, 16, ca 1, C.y)] [] H_51 locs_51 := ((hh_11.call hb_511 hb_512 hb_513 hb_514 hS_51 rfl (L1 := [(r0, 15, 5, .int qn_7), (r0, 15, 36, .int qb_7), (r0, 15, 38, .int name1_3), (r0, 15, 11, .int py), (r0, 15, 15, .int pf), (r0, 15, 21, .int pg), (r0, 15, 18, .int pp), (r0, 15, 20, .int pl), (r0, 15, 42, .int pr), (r0, 15, 17, .ref zf), (r0, 15, 22, .ref zg), (r0, 15, 25, .ref zh), (r0, 15, 27, .ref zp), (r0, 15, 0, .ref zs), (r0, 15, 1, .ref zn), (r0, 15, 2, .ref za), (r0, 15, 3, .ref zb), (r0, 15, 4, .ref zc), (r0, 15, 14, .ref zy)]) [0, 2, 3, 4, 5, 6, 7, 8, 9, 10, 11, 12, 13, 14, 15, 16, 17, 18, 19] rfl rfl (M1 := [(zs, 150, 120000, ca 1, D_7.s), (zn, 151, 120000, ca 1, D_7.n), (za, 152, 120000, ca 1, D_7.a), (zb, 153, 120000, ca 1, D_7.b), (zc, 154, 120000, ca 1, D_7.c), (zy, 165, 16, ca 1, D_7.y), (zf, 160, 16, ca 1, ff), (zg, 161, 46, ca 1, fg), (zh, 159, 46, ca 1, fh), (zp, 162, 368, ca 1, fp), (zy, 165, 16, ca 1, C.y)]) [0, 1, 2, 3, 4, 5, 6, 7, 8, 9, 10] rfl rfl (I1 := []) [] rfl rfl).more hb_515)
            clear hh_11 ht_51 hvm_51 hz_51 hk_51 hS_51 hb_511 hb_512 hb_513 hb_514 hb_515
            obtain ⟨hr_52_0, hr_52_1, hr_52_2, hr_52_3⟩ := hr_52
            refine lv_aload_n hx hb dX13_declare_138 rfl (lv_at hl 1 rfl) ?_
            refine j7_read hx hb hown hK (C := RX13) (T := TX13) (N := 50) rfl hly_15_34 hlk_221 (hh_51.at 0 rfl) dX13_declare_139 ?_
            refine lv_if_le (tgt := 146) hx hb dX13_declare_142 (by decide) (fun c_53 => ?_) (fun c_53 => ?_)
            · skip
              have c_53' : qu_51.toInt ≤ 0 := jb_le (rfl) ((by decide)) c_53
              exact (by omega : False).elim
            · skip
              have c_53' : qu_51.toInt > 0 := jb_le_n (rfl) ((by decide)) c_53
              rw [hQ]
              exact W.vret hx hb hr (fun t ht hW => ⟨⟨(qn_7, qu_51, py, pf, pg, pp, pl, ff, fg, fh, D_7), rfl, by (try dsimp only); exact ⟨by omega, by omega, by omega, by omega, hp0.ag hr_8_4 (by omega)⟩, ⟨hh_51.rt (M1 := [(r0, 15, 5, .int qn_7), (r0, 15, 34, .int qu_51), (r0, 15, 11, .int py), (r0, 15, 15, .int pf), (r0, 15, 21, .int pg), (r0, 15, 18, .int pp), (r0, 15, 20, .int pl)]) [1, 0, 4, 5, 6, 7, 8] rfl ht, by rw [ht]; exact hh_51.2.2.2.2.2.2.2.1.sub [6, 7, 8, 0, 1, 2, 3, 4, 5] rfl⟩⟩, by rw [ht]; try exact hh_51.1.1, fun q h9 hq => by rw [ht]; try exact hh_51.1.2.1 q h9 hq⟩) hh_51.1.2.2 dX13_declare_145
  · skip
    have c_6' : a1.toInt ≤ 1 := jb_gt_n (rfl) ((by decide)) c_6
    refine lv_aload_n hx hb dX13_declare_13 rfl (lv_at hl 0 rfl) ?_
    refine j7_read hx hb hown hK (C := RX13) (T := TX13) (N := 50) rfl hly_15_11 hlk_109 (hh_4.at 3 rfl) dX13_declare_14 ?_
    refine lv_bipush (v := 16) hx hb dX13_declare_17 (by decide) ?_
    refine lv_icmp_ne (tgt := 28) hx hb dX13_declare_19 (by decide) (fun c_54 => ?_) (fun c_54 => ?_)
    · skip
      have c_54' : py.toInt ≠ 16 := jb_ne (rfl) ((by decide)) c_54
      refine lv_aload_n hx hb dX13_declare_28 rfl (lv_at hl 0 rfl) ?_
      refine j7_read hx hb hown hK (C := RX13) (T := TX13) (N := 50) rfl hly_15_34 hlk_221 (hh_4.at 0 rfl) dX13_declare_29 ?_
      refine lv_if_le (tgt := 36) hx hb dX13_declare_32 (by decide) (fun c_55 => ?_) (fun c_55 => ?_)
      · skip
        have c_55' : qu_4.toInt ≤ 0 := jb_le (rfl) ((by decide)) c_55
        refine lv_aload_n hx hb dX13_declare_36 rfl (lv_at hl 0 rfl) ?_
        obtain ⟨v_56, hv_56, hh_57⟩ := hh_4.pin (C := RX13) (T := TX13) (N := 50) hB15 rfl (by decide) hg_r0 (i := 12) (by decide) rfl
        clear hh_4
        obtain ⟨symbol_58, rfl, hg_symbol_58⟩ := hv_56
        refine j7_read hx hb hown hK (C := RX13) (T := TX13) (N := 50) rfl hly_15_12 hlk_37 (hh_57.at 0 rfl) dX13_declare_37 ?_
        refine lv_aload_n hx hb dX13_declare_40 rfl (lv_at hl 0 rfl) ?_
        refine j7_read hx hb hown hK (C := RX13) (T := TX13) (N := 50) rfl hly_15_11 hlk_109 (hh_57.at 4 rfl) dX13_declare_41 ?_
        refine lv_aload_n hx hb dX13_declare_44 rfl (lv_at hl 0 rfl) ?_
        refine j7_read hx hb hown hK (C := RX13) (T := TX13) (N := 50) rfl hly_15_38 hlk_291 (hh_57.at 2 rfl) dX13_declare_45 ?_
        refine j7_iast hx hb hK hh_57 hB hB163 1 rfl (by decide) (by decide) rfl rfl rfl hg_symbol_58 (x := py.toInt) (rfl) (by omega) (by first | omega | (refine ⟨?_, ?_⟩ <;> (first | omega | rfl | assumption | decide | exact Or.inl rfl | exact Or.inr rfl | (simp only; omega)))) dX13_declare_48 (fun H_59 locs_59 hh_59 => ?_)
        clear hh_57
        refine lv_aload_n hx hb dX13_declare_49 rfl (lv_at hl 0 rfl) ?_
        obtain ⟨v_60, hv_60, hh_61⟩ := hh_59.pin (C := RX13) (T := TX13) (N := 50) hB15 rfl (by decide) hg_r0 (i := 13) (by decide) rfl
        clear hh_59
        obtain ⟨predicate_62, rfl, hg_predicate_62⟩ := hv_60
        refine j7_read hx hb hown hK (C := RX13) (T := TX13) (N := 50) rfl hly_15_13 hlk_40 (hh_61.at 0 rfl) dX13_declare_50 ?_
        refine lv_aload_n hx hb dX13_declare_53 rfl (lv_at hl 0 rfl) ?_
        refine j7_read hx hb hown hK (C := RX13) (T := TX13) (N := 50) rfl hly_15_11 hlk_109 (hh_61.at 5 rfl) dX13_declare_54 ?_
        refine lv_iload_n hx hb dX13_declare_57 rfl (lv_at hl 1 rfl) ?_
        refine lv_iconst (v := 1) hx hb dX13_declare_58 (by decide) ?_
        refine lv_icmp_ne (tgt := 66) hx hb dX13_declare_59 (by decide) (fun c_63 => ?_) (fun c_63 => ?_)
        · skip
          have c_63' : a1.toInt ≠ 1 := jb_ne (rfl) ((by decide)) c_63
          refine lv_iconst (v := 0) hx hb dX13_declare_66 (by decide) ?_
          refine j7_zast hx hb hK hh_61 hB hB103 3 rfl (by decide) (by decide) rfl rfl rfl hg_predicate_62 (x := py.toInt) (rfl) (by omega) (Or.inl rfl) (Or.inl rfl) dX13_declare_67 (fun H_64 locs_64 hh_64 => ?_)
          clear hh_61
          refine lv_aload_n hx hb dX13_declare_68 rfl (lv_at hl 0 rfl) ?_
          refine j7_read hx hb hown hK (C := RX13) (T := TX13) (N := 50) rfl hly_15_14 hlk_44 (hh_64.at 21 rfl) dX13_declare_69 ?_
          refine lv_aload_n hx hb dX13_declare_72 rfl (lv_at hl 0 rfl) ?_
          refine j7_read hx hb hown hK (C := RX13) (T := TX13) (N := 50) rfl hly_15_11 hlk_109 (hh_64.at 5 rfl) dX13_declare_73 ?_
          refine lv_aload_n hx hb dX13_declare_76 rfl (lv_at hl 0 rfl) ?_
          obtain ⟨v_65, hv_65, hh_66⟩ := hh_64.pin (C := RX13) (T := TX13) (N := 50) hB15 rfl (by decide) hg_r0 (i := 41) (by decide) rfl
          clear hh_64
          obtain ⟨digit_67, rfl, hlodigit_67, hhidigit_67⟩ := hv_65
          refine j7_read hx hb hown hK (C := RX13) (T := TX13) (N := 50) rfl hly_15_41 hlk_300 (hh_66.at 0 rfl) dX13_declare_77 ?_
          refine j7_iastU hx hb hK hh_66 hB hB165 1 rfl (by decide) (by decide) rfl 9 rfl (M1 := [(zf, 160, 16, ca 1, ff), (zg, 161, 46, ca 1, fg), (zh, 159, 46, ca 1, fh), (zp, 162, 368, ca 1, fp), (zs, 150, 120000, ca 1, C.s), (zn, 151, 120000, ca 1, C.n), (za, 152, 120000, ca 1, C.a), (zb, 153, 120000, ca 1, C.b), (zc, 154, 120000, ca 1, C.c)]) [0, 1, 2, 3, 4, 5, 6, 7, 8] rfl rfl rfl hg_zy (x := py.toInt) (rfl) (by omega) (by first | omega | (refine ⟨?_, ?_⟩ <;> (first | omega | rfl | assumption | decide | exact Or.inl rfl | exact Or.inr rfl | (simp only; omega)))) dX13_declare_80 (fun H_68 locs_68 fs_69 hv_68 ho_68 hh_68 => ?_)
          have hv_68 : jSo fs_69 (py.toInt) = digit_67.toInt := by unfold jSo; rw [hv_68]; try exact rfl
          clear hh_66
          refine lv_aload_n hx hb dX13_declare_81 rfl (lv_at hl 0 rfl) ?_
          refine lv_dup hx hb dX13_declare_82 rfl ?_
          refine j7_read hx hb hown hK (C := RX13) (T := TX13) (N := 50) rfl hly_15_11 hlk_109 (hh_68.at 6 rfl) dX13_declare_83 ?_
          refine lv_iconst (v := 1) hx hb dX13_declare_86 (by decide) ?_
          refine lv_iadd hx hb dX13_declare_87 ?_
          refine lv_topi (fun z_70 ez_70 => ?_)
          have hz_70 : z_70.toInt = py.toInt + 1 := by rw [ez_70]; exact jb_iadd2 (rfl) ((by decide)) (by omega)
          refine j7_put hx hb hown hK hh_68 hB hAp hB15 (C := RX13) (T := TX13) (N := 50) rfl (by decide) hg_r0 (i := 11) (by decide) hly_15_11 rfl hlk_109 rfl (ty := .int) (v := .int z_70) (by decide +kernel) rfl rfl (⟨_, rfl, by omega, by omega⟩) rfl (L1 := [(r0, 15, 41, .int digit_67), (r0, 15, 13, .ref predicate_62), (r0, 15, 12, .ref symbol_58), (r0, 15, 34, .int qu_4), (r0, 15, 38, .int name1_3), (r0, 15, 5, .int pn), (r0, 15, 36, .int pb), (r0, 15, 15, .int pf), (r0, 15, 21, .int pg), (r0, 15, 18, .int pp), (r0, 15, 20, .int pl), (r0, 15, 42, .int pr), (r0, 15, 17, .ref zf), (r0, 15, 22, .ref zg), (r0, 15, 25, .ref zh), (r0, 15, 27, .ref zp), (r0, 15, 0, .ref zs), (r0, 15, 1, .ref zn), (r0, 15, 2, .ref za), (r0, 15, 3, .ref zb), (r0, 15, 4, .ref zc), (r0, 15, 14, .ref zy)]) [0, 1, 2, 3, 4, 5, 7, 8, 9, 10, 11, 12, 13, 14, 15, 16, 17, 18, 19, 20, 21, 22] rfl rfl rfl dX13_declare_88 (fun H_71 locs_71 hh_71 => ?_)
          clear hh_68
          rw [hQ]
          exact W.vret hx hb hr (fun t ht hW => ⟨⟨(pn, qu_4, z_70, pf, pg, pp, pl, ff, fg, fh, (jK.mk C.s C.n C.a C.b C.c fs_69)), rfl, by
    try dsimp only
    refine ⟨by omega, by omega, by omega, by omega, ?_⟩
    have k := hp0.newsym (jUpd.mk (n := 16) hv_68 ho_68 rfl (by omega)) (by omega)
    rw [show py.toInt + 1 = z_70.toInt by omega] at k
    exact k, ⟨hh_71.rt (M1 := [(r0, 15, 5, .int pn), (r0, 15, 34, .int qu_4), (r0, 15, 11, .int z_70), (r0, 15, 15, .int pf), (r0, 15, 21, .int pg), (r0, 15, 18, .int pp), (r0, 15, 20, .int pl)]) [6, 4, 0, 8, 9, 10, 11] rfl ht, by rw [ht]; exact hh_71.2.2.2.2.2.2.2.1.sub [1, 2, 3, 5, 6, 7, 8, 9, 0] rfl⟩⟩, by rw [ht]; try exact hh_71.1.1, fun q h9 hq => by rw [ht]; try exact hh_71.1.2.1 q h9 hq⟩) hh_71.1.2.2 dX13_declare_91
        · skip
          have c_63' : a1.toInt = 1 := jb_ne_n (rfl) ((by decide)) c_63
          refine lv_iconst (v := 1) hx hb dX13_declare_62 (by decide) ?_
          refine lv_goto (tgt := 67) hx hb dX13_declare_63 (by decide) ?_
          refine j7_zast hx hb hK hh_61 hB hB103 3 rfl (by decide) (by decide) rfl rfl rfl hg_predicate_62 (x := py.toInt) (rfl) (by omega) (Or.inr rfl) (Or.inr rfl) dX13_declare_67 (fun H_72 locs_72 hh_72 => ?_)
          clear hh_61
          refine lv_aload_n hx hb dX13_declare_68 rfl (lv_at hl 0 rfl) ?_
          refine j7_read hx hb hown hK (C := RX13) (T := TX13) (N := 50) rfl hly_15_14 hlk_44 (hh_72.at 21 rfl) dX13_declare_69 ?_
          refine lv_aload_n hx hb dX13_declare_72 rfl (lv_at hl 0 rfl) ?_
          refine j7_read hx hb hown hK (C := RX13) (T := TX13) (N := 50) rfl hly_15_11 hlk_109 (hh_72.at 5 rfl) dX13_declare_73 ?_
          refine lv_aload_n hx hb dX13_declare_76 rfl (lv_at hl 0 rfl) ?_
          obtain ⟨v_73, hv_73, hh_74⟩ := hh_72.pin (C := RX13) (T := TX13) (N := 50) hB15 rfl (by decide) hg_r0 (i := 41) (by decide) rfl
          clear hh_72
          obtain ⟨digit_75, rfl, hlodigit_75, hhidigit_75⟩ := hv_73
          refine j7_read hx hb hown hK (C := RX13) (T := TX13) (N := 50) rfl hly_15_41 hlk_300 (hh_74.at 0 rfl) dX13_declare_77 ?_
          refine j7_iastU hx hb hK hh_74 hB hB165 1 rfl (by decide) (by decide) rfl 9 rfl (M1 := [(zf, 160, 16, ca 1, ff), (zg, 161, 46, ca 1, fg), (zh, 159, 46, ca 1, fh), (zp, 162, 368, ca 1, fp), (zs, 150, 120000, ca 1, C.s), (zn, 151, 120000, ca 1, C.n), (za, 152, 120000, ca 1, C.a), (zb, 153, 120000, ca 1, C.b), (zc, 154, 120000, ca 1, C.c)]) [0, 1, 2, 3, 4, 5, 6, 7, 8] rfl rfl rfl hg_zy (x := py.toInt) (rfl) (by omega) (by first | omega | (refine ⟨?_, ?_⟩ <;> (first | omega | rfl | assumption | decide | exact Or.inl rfl | exact Or.inr rfl | (simp only; omega)))) dX13_declare_80 (fun H_76 locs_76 fs_77 hv_76 ho_76 hh_76 => ?_)
          have hv_76 : jSo fs_77 (py.toInt) = digit_75.toInt := by unfold jSo; rw [hv_76]; try exact rfl
          clear hh_74
          refine lv_aload_n hx hb dX13_declare_81 rfl (lv_at hl 0 rfl) ?_
          refine lv_dup hx hb dX13_declare_82 rfl ?_
          refine j7_read hx hb hown hK (C := RX13) (T := TX13) (N := 50) rfl hly_15_11 hlk_109 (hh_76.at 6 rfl) dX13_declare_83 ?_
          refine lv_iconst (v := 1) hx hb dX13_declare_86 (by decide) ?_
          refine lv_iadd hx hb dX13_declare_87 ?_
          refine lv_topi (fun z_78 ez_78 => ?_)
          have hz_78 : z_78.toInt = py.toInt + 1 := by rw [ez_78]; exact jb_iadd2 (rfl) ((by decide)) (by omega)
          refine j7_put hx hb hown hK hh_76 hB hAp hB15 (C := RX13) (T := TX13) (N := 50) rfl (by decide) hg_r0 (i := 11) (by decide) hly_15_11 rfl hlk_109 rfl (ty := .int) (v := .int z_78) (by decide +kernel) rfl rfl (⟨_, rfl, by omega, by omega⟩) rfl (L1 := [(r0, 15, 41, .int digit_75), (r0, 15, 13, .ref predicate_62), (r0, 15, 12, .ref symbol_58), (r0, 15, 34, .int qu_4), (r0, 15, 38, .int name1_3), (r0, 15, 5, .int pn), (r0, 15, 36, .int pb), (r0, 15, 15, .int pf), (r0, 15, 21, .int pg), (r0, 15, 18, .int pp), (r0, 15, 20, .int pl), (r0, 15, 42, .int pr), (r0, 15, 17, .ref zf), (r0, 15, 22, .ref zg), (r0, 15, 25, .ref zh), (r0, 15, 27, .ref zp), (r0, 15, 0, .ref zs), (r0, 15, 1, .ref zn), (r0, 15, 2, .ref za), (r0, 15, 3, .ref zb), (r0, 15, 4, .ref zc), (r0, 15, 14, .ref zy)]) [0, 1, 2, 3, 4, 5, 7, 8, 9, 10, 11, 12, 13, 14, 15, 16, 17, 18, 19, 20, 21, 22] rfl rfl rfl dX13_declare_88 (fun H_79 locs_79 hh_79 => ?_)
          clear hh_76
          rw [hQ]
          exact W.vret hx hb hr (fun t ht hW => ⟨⟨(pn, qu_4, z_78, pf, pg, pp, pl, ff, fg, fh, (jK.mk C.s C.n C.a C.b C.c fs_77)), rfl, by
    try dsimp only
    refine ⟨by omega, by omega, by omega, by omega, ?_⟩
    have k := hp0.newsym (jUpd.mk (n := 16) hv_76 ho_76 rfl (by omega)) (by omega)
    rw [show py.toInt + 1 = z_78.toInt by omega] at k
    exact k, ⟨hh_79.rt (M1 := [(r0, 15, 5, .int pn), (r0, 15, 34, .int qu_4), (r0, 15, 11, .int z_78), (r0, 15, 15, .int pf), (r0, 15, 21, .int pg), (r0, 15, 18, .int pp), (r0, 15, 20, .int pl)]) [6, 4, 0, 8, 9, 10, 11] rfl ht, by rw [ht]; exact hh_79.2.2.2.2.2.2.2.1.sub [1, 2, 3, 5, 6, 7, 8, 9, 0] rfl⟩⟩, by rw [ht]; try exact hh_79.1.1, fun q h9 hq => by rw [ht]; try exact hh_79.1.2.1 q h9 hq⟩) hh_79.1.2.2 dX13_declare_91
      · skip
        have c_55' : qu_4.toInt > 0 := jb_le_n (rfl) ((by decide)) c_55
        rw [hQ]
        exact W.vret hx hb hr (fun t ht hW => ⟨⟨(pn, qu_4, py, pf, pg, pp, pl, ff, fg, fh, C), rfl, by (try dsimp only); exact ⟨by omega, by omega, by omega, by omega, hp0⟩, ⟨hh_4.rt (M1 := [(r0, 15, 5, .int pn), (r0, 15, 34, .int qu_4), (r0, 15, 11, .int py), (r0, 15, 15, .int pf), (r0, 15, 21, .int pg), (r0, 15, 18, .int pp), (r0, 15, 20, .int pl)]) [2, 0, 3, 5, 6, 7, 8] rfl ht, by rw [ht]; exact hh_4.2.2.2.2.2.2.2.1.sub [0, 1, 2, 4, 5, 6, 7, 8, 9] rfl⟩⟩, by rw [ht]; try exact hh_4.1.1, fun q h9 hq => by rw [ht]; try exact hh_4.1.2.1 q h9 hq⟩) hh_4.1.2.2 dX13_declare_35
    · skip
      have c_54' : py.toInt = 16 := jb_ne_n (rfl) ((by decide)) c_54
      refine lv_aload_n hx hb dX13_declare_22 rfl (lv_at hl 0 rfl) ?_
      refine lv_bipush (v := 9) hx hb dX13_declare_23 (by decide) ?_
      refine va_callv (A0 := jA base) (H0 := s.heap) (va_runV (As := [.int 9]) (rest := []) ⟨hx, hb, hml, hown, hts⟩ (uX13_failsK l dC dI ca base B hB hAp hB15 G0 H_4 r0 9 qu_4) (cwV 1 hts (jgV (jWr_64 _ (List.mem_of_getElem? (i := 19) rfl)) (jWr_64 _ (List.mem_of_getElem? (i := 20) rfl)) (jWr_64 _ (List.mem_of_getElem? (i := 21) rfl)) (jWr_12 _ (List.mem_of_getElem? (i := 12) rfl)) (jWr_64 _ (List.mem_of_getElem? (i := 22) rfl))) rfl rfl rfl (by decide +kernel) ⟨by rw [← hR]; exact Nat.le_of_ble_eq_true rfl, by rw [← hR]; exact Nat.le_of_ble_eq_true rfl⟩) ⟨fun a U g mk q => by obtain ⟨q0, q1, q2, qK, q10, q11, q12⟩ := q; exact ⟨q0, q1, q2, jG.calling g mk a qK, q10, q11, q12⟩, hh_4.recv (C := RX13) (T := TX13) (N := 50) hB15 rfl (by decide) hg_r0 hK, fun U hU hW => ⟨rfl, hU, hh_4.2.1, hG.step hW hU hh_4.1, hg_r0, (hh_4.2.2.1.sub (L1 := [(r0, 15, 34, .int qu_4)]) [0] rfl), by first | omega | (refine ⟨?_, ?_, ?_, ?_⟩ <;> (first | omega | rfl | assumption | decide | exact Or.inl rfl | exact Or.inr rfl | (simp only; omega)))⟩⟩ rfl rfl hl.1 rfl (lv_room (Nat.le_of_ble_eq_true rfl)) dX13_declare_25 ⟨Nat.zero_le _, Nat.zero_le _⟩) hh_4.1 (fun q _ h => h) (fun q h => h) (fun u_80 t_80 H_80 locs_80 ht_80 hvm_80 hr_81 hb_80 hz_80 hk_80 hS_80 => ?_)
      obtain ⟨qu_80, rfl⟩ : ∃ z, z = u_80 := ⟨_, rfl⟩
      rw [ht_80] at hb_80
      obtain ⟨hb_801, hb_802, hb_803, hb_804, hb_805⟩ := hb_80
      have hh_80 : jSt (dC, dI) B base G0 G0 EX13_declare s.heap 0 0 [(r0, 15, 34, .int qu_80), (r0, 15, 38, .int name1_3), (r0, 15, 5, .int pn), (r0, 15, 11, .int py), (r0, 15, 36, .int pb), (r0, 15, 15, .int pf), (r0, 15, 21, .int pg), (r0, 15, 18, .int pp), (r0, 15, 20, .int pl), (r0, 15, 42, .int pr), (r0, 15, 17, .ref zf), (r0, 15, 22, .ref zg), (r0, 15, 25, .ref zh), (r0, 15, 27, .ref zp), (r0, 15, 0, .ref zs), (r0, 15, 1, .ref zn), (r0, 15, 2, .ref za), (r0, 15, 3, .ref zb), (r0, 15, 4, .ref zc), (r0, 15, 14, .ref zy)] [(zf, 160, 16, ca 1, ff), (zg, 161, 46, ca 1, fg), (zh, 159, 46, ca 1, fh), (zp, 162, 368, ca 1, fp), (zs, 150, 120000, ca 1, C.s), (zn, 151, 120000, ca 1, C.n), (za, 152, 120000, ca 1, C.a), (zb, 153, 120000, ca 1, C.b), (zc, 154, 120000, ca 1, C.c), (zy, 165, 16, ca 1, C.y)] [] H_80 locs_80 := ((hh_4.call hb_801 hb_802 hb_803 hb_804 hS_80 rfl (L1 := [(r0, 15, 38, .int name1_3), (r0, 15, 5, .int pn), (r0, 15, 11, .int py), (r0, 15, 36, .int pb), (r0, 15, 15, .int pf), (r0, 15, 21, .int pg), (r0, 15, 18, .int pp), (r0, 15, 20, .int pl), (r0, 15, 42, .int pr), (r0, 15, 17, .ref zf), (r0, 15, 22, .ref zg), (r0, 15, 25, .ref zh), (r0, 15, 27, .ref zp), (r0, 15, 0, .ref zs), (r0, 15, 1, .ref zn), (r0, 15, 2, .ref za), (r0, 15, 3, .ref zb), (r0, 15, 4, .ref zc), (r0, 15, 14, .ref zy)]) [1, 2, 3, 4, 5, 6, 7, 8, 9, 10, 11, 12, 13, 14, 15, 16, 17, 18, 19] rfl rfl (M1 := [(zf, 160, 16, ca 1, ff), (zg, 161, 46, ca 1, fg), (zh, 159, 46, ca 1, fh), (zp, 162, 368, ca 1, fp), (zs, 150, 120000, ca 1, C.s), (zn, 151, 120000, ca 1, C.n), (za, 152, 120000, ca 1, C.a), (zb, 153, 120000, ca 1, C.b), (zc, 154, 120000, ca 1, C.c), (zy, 165, 16, ca 1, C.y)]) [0, 1, 2, 3, 4, 5, 6, 7, 8, 9] rfl rfl (I1 := []) [] rfl rfl).more hb_805)
      clear hh_4 ht_80 hvm_80 hz_80 hk_80 hS_80 hb_801 hb_802 hb_803 hb_804 hb_805
      obtain ⟨hr_81_0, hr_81_1, hr_81_2, hr_81_3⟩ := hr_81
      refine lv_aload_n hx hb dX13_declare_28 rfl (lv_at hl 0 rfl) ?_
      refine j7_read hx hb hown hK (C := RX13) (T := TX13) (N := 50) rfl hly_15_34 hlk_221 (hh_80.at 0 rfl) dX13_declare_29 ?_
      refine lv_if_le (tgt := 36) hx hb dX13_declare_32 (by decide) (fun c_82 => ?_) (fun c_82 => ?_)
      · skip
        have c_82' : qu_80.toInt ≤ 0 := jb_le (rfl) ((by decide)) c_82
        exact (by omega : False).elim
      · skip
        have c_82' : qu_80.toInt > 0 := jb_le_n (rfl) ((by decide)) c_82
        rw [hQ]
        exact W.vret hx hb hr (fun t ht hW => ⟨⟨(pn, qu_80, py, pf, pg, pp, pl, ff, fg, fh, C), rfl, by (try dsimp only); exact ⟨by omega, by omega, by omega, by omega, hp0⟩, ⟨hh_80.rt (M1 := [(r0, 15, 5, .int pn), (r0, 15, 34, .int qu_80), (r0, 15, 11, .int py), (r0, 15, 15, .int pf), (r0, 15, 21, .int pg), (r0, 15, 18, .int pp), (r0, 15, 20, .int pl)]) [2, 0, 3, 5, 6, 7, 8] rfl ht, by rw [ht]; exact hh_80.2.2.2.2.2.2.2.1.sub [0, 1, 2, 4, 5, 6, 7, 8, 9] rfl⟩⟩, by rw [ht]; try exact hh_80.1.1, fun q h9 hq => by rw [ht]; try exact hh_80.1.2.1 q h9 hq⟩) hh_80.1.2.2 dX13_declare_35
set_option maxHeartbeats 4000000 in
set_option maxRecDepth 20000 in
theorem uX13_intro (l : Launch) (dC : Nat → ClassId) (dI : Nat → Nat → Nat) (ca : Nat → ClassId) (base : Nat) (B : jF) (hB : jBok B) (hAp : jAp (dC, dI)) (hB15 : ∀ n G a H, B 15 n G a H ↔ jOb (dC, dI) 15 50 (F15 n G) a H) (hB150 : ∀ n G a H, B 150 n G a H ↔ jAr (dC, dI) (ca 1) (fun j z => True) n a H) (hB151 : ∀ n G a H, B 151 n G a H ↔ jAr (dC, dI) (ca 1) (fun j z => True) n a H) (hB152 : ∀ n G a H, B 152 n G a H ↔ jAr (dC, dI) (ca 1) (fun j z => True) n a H) (hB153 : ∀ n G a H, B 153 n G a H ↔ jAr (dC, dI) (ca 1) (fun j z => True) n a H) (hB154 : ∀ n G a H, B 154 n G a H ↔ jAr (dC, dI) (ca 1) (fun j z => True) n a H) (hB158 : ∀ n G a H, B 158 n G a H ↔ jAr (dC, dI) (ca 1) (fun j z => 0 ≤ z.toInt ∧ z.toInt ≤ 6) n a H) (hB159 : ∀ n G a H, B 159 n G a H ↔ jAr (dC, dI) (ca 1) (fun j z => 0 ≤ z.toInt ∧ z.toInt ≤ 8) n a H) (hB161 : ∀ n G a H, B 161 n G a H ↔ jAr (dC, dI) (ca 1) (fun j z => 0 ≤ z.toInt ∧ z.toInt ≤ 119999) n a H) (hB162 : ∀ n G a H, B 162 n G a H ↔ jAr (dC, dI) (ca 1) (fun j z => 0 ≤ z.toInt ∧ z.toInt ≤ 119999) n a H) (hB163 : ∀ n G a H, B 163 n G a H ↔ jAr (dC, dI) (ca 1) (fun j z => 0 ≤ z.toInt ∧ z.toInt ≤ 1599) n a H) (hB165 : ∀ n G a H, B 165 n G a H ↔ jAr (dC, dI) (ca 1) (fun j z => 0 ≤ z.toInt ∧ z.toInt ≤ 3) n a H) (hB169 : ∀ n G a H, B 169 n G a H ↔ jAr (dC, dI) (ca 1) (fun j z => True) n a H) (G0 : jT) (H0 : Heap) (r0 : Nat) (a1 : Int32) (a2 : Int32) (pn : Int32) (pu : Int32) (py : Int32) (pg : Int32) (zg : Nat) (zh : Nat) (zp : Nat) (zv : Nat) (zs : Nat) (zn : Nat) (za : Nat) (zb : Nat) (zc : Nat) (zy : Nat) (fg : Nat → Int32) (fh : Nat → Int32) (fp : Nat → Int32) (fv : Nat → Int32) (C : jK) : Met l yX13_intro (jw yX13_intro cX13_intro 4 none) ({ frames := 1692, cells := 0, slots := 0, locals := 70849 }) (va_Pc [.ref r0, .int a1, .int a2] (fun U => U.heap = H0 ∧ jX B base G0 [] H0 ∧ jG dC dI ca base U ∧ G0 r0 = some (15, 0) ∧ G0 zg = some (161, 46) ∧ G0 zh = some (159, 46) ∧ G0 zp = some (162, 368) ∧ G0 zv = some (158, 46) ∧ G0 zs = some (150, 120000) ∧ G0 zn = some (151, 120000) ∧ G0 za = some (152, 120000) ∧ G0 zb = some (153, 120000) ∧ G0 zc = some (154, 120000) ∧ G0 zy = some (165, 16) ∧ jP (dC, dI) G0 H0 [(r0, 15, 5, .int pn), (r0, 15, 34, .int pu), (r0, 15, 11, .int py), (r0, 15, 21, .int pg), (r0, 15, 22, .ref zg), (r0, 15, 25, .ref zh), (r0, 15, 27, .ref zp), (r0, 15, 23, .ref zv), (r0, 15, 0, .ref zs), (r0, 15, 1, .ref zn), (r0, 15, 2, .ref za), (r0, 15, 3, .ref zb), (r0, 15, 4, .ref zc), (r0, 15, 14, .ref zy)] ∧ jMc (dC, dI) G0 H0 [(zg, 161, 46, ca 1, fg), (zh, 159, 46, ca 1, fh), (zp, 162, 368, ca 1, fp), (zv, 158, 46, ca 1, fv), (zs, 150, 120000, ca 1, C.s), (zn, 151, 120000, ca 1, C.n), (za, 152, 120000, ca 1, C.a), (zb, 153, 120000, ca 1, C.b), (zc, 154, 120000, ca 1, C.c), (zy, 165, 16, ca 1, C.y)] ∧ jGl (jG1 C pn.toInt py.toInt) fg fh fp pg.toInt ∧ 1 ≤ pg.toInt ∧ pg.toInt ≤ 6 ∧ pu.toInt = 0 ∧ 0 ≤ pn.toInt ∧ pn.toInt ≤ 119000 ∧ 0 ≤ py.toInt ∧ py.toInt ≤ 16 ∧ a1.toInt = jSo fg 0 ∧ a2.toInt = jSo C.s a1.toInt)) (va_Qv (S := Int32 × Int32 × (Nat → Int32) × (Nat → Int32) × (Nat → Int32) × jK) (fun u => pn.toInt ≤ u.1.toInt ∧ u.1.toInt ≤ pn.toInt + 90 ∧ 0 ≤ u.2.1.toInt ∧ u.2.1.toInt ≤ 9 ∧ jAgK C u.2.2.2.2.2 pn.toInt ∧ jGl (jG1 u.2.2.2.2.2 u.1.toInt py.toInt) u.2.2.1 u.2.2.2.1 u.2.2.2.2.1 pg.toInt) (fun u t => jRt (dC, dI) B base G0 EX13_intro H0 [(r0, 15, 5, .int u.1), (r0, 15, 34, .int u.2.1)] t.heap ∧ jMc (dC, dI) G0 t.heap [(zg, 161, 46, ca 1, u.2.2.1), (zh, 159, 46, ca 1, u.2.2.2.1), (zp, 162, 368, ca 1, u.2.2.2.2.1), (zs, 150, 120000, ca 1, u.2.2.2.2.2.s), (zn, 151, 120000, ca 1, u.2.2.2.2.2.n), (za, 152, 120000, ca 1, u.2.2.2.2.2.a), (zb, 153, 120000, ca 1, u.2.2.2.2.2.b), (zc, 154, 120000, ca 1, u.2.2.2.2.2.c), (zy, 165, 16, ca 1, u.2.2.2.2.2.y)]) (jA base)) 0 0 (jA base) := by
  refine Met.ofW (cc := cX13_intro) (maxL := 4) (ret := none) (by decide) rfl ?_
  intro p e s m args below meth c s₁ Bd hml hv
  obtain ⟨rfl, hH0, hX, hG, hg_r0, hg_zg, hg_zh, hg_zp, hg_zv, hg_zs, hg_zn, hg_za, hg_zb, hg_zc, hg_zy, hP0, hM0, hp0, hp1, hp2, hp3, hp4, hp5, hp6, hp7, hp8, hp9⟩ := hv
  have hK := hG.1
  have hx := Bd.exec
  have hb := Bd.bytes
  have hr := Bd.returns
  have hts := atoms_spec (ws := (jw yX13_intro cX13_intro 4 none)) Bd.pre
  have htw : ∀ w ∈ jWl, w.before _ s = true := fun w h => hts w (List.mem_cons_of_mem _ h)
  have hown : s.vm.findClass RX13 = some m.cls := findClass_of_methodNamed Bd.named
  have hlocks := Bd.notSynchronized
  obtain ⟨Q, hQ⟩ : ∃ Q, Q = MQ below (va_Qv (S := Int32 × Int32 × (Nat → Int32) × (Nat → Int32) × (Nat → Int32) × jK) (fun u => pn.toInt ≤ u.1.toInt ∧ u.1.toInt ≤ pn.toInt + 90 ∧ 0 ≤ u.2.1.toInt ∧ u.2.1.toInt ≤ 9 ∧ jAgK C u.2.2.2.2.2 pn.toInt ∧ jGl (jG1 u.2.2.2.2.2 u.1.toInt py.toInt) u.2.2.1 u.2.2.2.1 u.2.2.2.2.1 pg.toInt) (fun u t => jRt (dC, dI) B base G0 EX13_intro H0 [(r0, 15, 5, .int u.1), (r0, 15, 34, .int u.2.1)] t.heap ∧ jMc (dC, dI) G0 t.heap [(zg, 161, 46, ca 1, u.2.2.1), (zh, 159, 46, ca 1, u.2.2.2.1), (zp, 162, 368, ca 1, u.2.2.2.2.1), (zs, 150, 120000, ca 1, u.2.2.2.2.2.s), (zn, 151, 120000, ca 1, u.2.2.2.2.2.n), (za, 152, 120000, ca 1, u.2.2.2.2.2.a), (zb, 153, 120000, ca 1, u.2.2.2.2.2.b), (zc, 154, 120000, ca 1, u.2.2.2.2.2.c), (zy, 165, 16, ca 1, u.2.2.2.2.2.y)]) (jA base)) ([.ref r0, .int a1, .int a2] : List Value).toArray s 0 0 (jA base) := ⟨_, rfl⟩
  rw [← hQ]
  have hl := lv_entry ([.ref r0, .int a1, .int a2]) (n := 4) (Nat.le_of_ble_eq_true rfl)
  rw [lg_entry_eq]
  generalize (lg_sl ([.ref r0, .int a1, .int a2]) ++ List.replicate (4 - (lg_sl ([.ref r0, .int a1, .int a2])).length) Slot.unset).toArray = ls at hl ⊢
  have hl : lv_has ls 4 [(0, .ref r0), (1, .int a1), (2, .int a2)] := hl
  generalize hR : (headSpec (jw yX13_intro cX13_intro 4 none) ({ frames := 1692, cells := 0, slots := 0, locals := 70849 })).room = R
  subst hH0
  have hh : jSt (dC, dI) B base G0 G0 EX13_intro s.heap 0 0 [(r0, 15, 5, .int pn), (r0, 15, 34, .int pu), (r0, 15, 11, .int py), (r0, 15, 21, .int pg), (r0, 15, 22, .ref zg), (r0, 15, 25, .ref zh), (r0, 15, 27, .ref zp), (r0, 15, 23, .ref zv), (r0, 15, 0, .ref zs), (r0, 15, 1, .ref zn), (r0, 15, 2, .ref za), (r0, 15, 3, .ref zb), (r0, 15, 4, .ref zc), (r0, 15, 14, .ref zy)] [(zg, 161, 46, ca 1, fg), (zh, 159, 46, ca 1, fh), (zp, 162, 368, ca 1, fp), (zv, 158, 46, ca 1, fv), (zs, 150, 120000, ca 1, C.s), (zn, 151, 120000, ca 1, C.n), (za, 152, 120000, ca 1, C.a), (zb, 153, 120000, ca 1, C.b), (zc, 154, 120000, ca 1, C.c), (zy, 165, 16, ca 1, C.y)] [] s.heap [] := jSt.start hX hP0 hM0 jIs.nil
  clear hX hP0
  have hk0 : (0 : Int32).toInt = 0 := by decide
  have hk1 : (1 : Int32).toInt = 1 := by decide
  have hk4 : (4 : Int32).toInt = 4 := by decide
  have hk6 : (6 : Int32).toInt = 6 := by decide
  have hk8 : (8 : Int32).toInt = 8 := by decide
  have hk9 : (9 : Int32).toInt = 9 := by decide
  have hly_15_2 := htw (u_lay RX13 TX13 2) (jWc_wsX130 _ (u_in_lay (by decide)))
  have hly_15_3 := htw (u_lay RX13 TX13 3) (jWc_wsX130 _ (u_in_lay (by decide)))
  have hly_15_22 := htw (u_lay RX13 TX13 22) (jWc_wsX130 _ (u_in_lay (by decide)))
  have hly_15_23 := htw (u_lay RX13 TX13 23) (jWc_wsX130 _ (u_in_lay (by decide)))
  have hly_15_24 := htw (u_lay RX13 TX13 24) (jWc_wsX130 _ (u_in_lay (by decide)))
  have hly_15_25 := htw (u_lay RX13 TX13 25) (jWc_wsX130 _ (u_in_lay (by decide)))
  have hly_15_34 := htw (u_lay RX13 TX13 34) (jWc_wsX130 _ (u_in_lay (by decide)))
  have hly_15_38 := htw (u_lay RX13 TX13 38) (jWc_wsX130 _ (u_in_lay (by decide)))
  have hlk_62 := (htw (.fieldLink RX13 62 "ProofServerModel$Kernel" "hyps" "[I") (jWr_15 _ (List.mem_of_getElem? (i := 1) rfl)))
  have hlk_221 := (htw (.fieldLink RX13 221 "ProofServerModel$Kernel" "fault" "I") (jWr_60 _ (List.mem_of_getElem? (i := 3) rfl)))
  have hlk_291 := (htw (.fieldLink RX13 291 "ProofServerModel$Kernel" "name1" "I") (jWr_61 _ (List.mem_of_getElem? (i := 12) rfl)))
  have hlk_19 := (htw (.fieldLink RX13 19 "ProofServerModel$Kernel" "one" "[I") (jWr_14 _ (List.mem_of_getElem? (i := 11) rfl)))
  have hlk_53 := (htw (.fieldLink RX13 53 "ProofServerModel$Kernel" "goal" "[I") (jWr_14 _ (List.mem_of_getElem? (i := 22) rfl)))
  have hlk_22 := (htw (.fieldLink RX13 22 "ProofServerModel$Kernel" "two" "[I") (jWr_14 _ (List.mem_of_getElem? (i := 12) rfl)))
  have hlk_56 := (htw (.fieldLink RX13 56 "ProofServerModel$Kernel" "vars" "[I") (jWr_14 _ (List.mem_of_getElem? (i := 23) rfl)))
  have hlk_59 := (htw (.fieldLink RX13 59 "ProofServerModel$Kernel" "varName" "[I") (jWr_15 _ (List.mem_of_getElem? (i := 0) rfl)))
  have hrg_a1 := jb_rng a1
  have hrg_a2 := jb_rng a2
  have hg0 : jG1 C pn.toInt py.toInt a1.toInt := by rw [hp8]; exact (hp0 0 (by omega) (by omega)).1
  have hr0 := hg0.rng
  refine lv_iload_n hx hb dX13_intro_0 rfl (lv_at hl 2 rfl) ?_
  refine lv_if_ne (tgt := 59) hx hb dX13_intro_1 (by decide) (fun c_1 => ?_) (fun c_1 => ?_)
  · skip
    have c_1' : a2.toInt ≠ 0 := jb_ne (rfl) ((by decide)) c_1
    refine lv_iload_n hx hb dX13_intro_59 rfl (lv_at hl 2 rfl) ?_
    refine lv_iconst (v := 4) hx hb dX13_intro_60 (by decide) ?_
    refine lv_icmp_ne (tgt := 151) hx hb dX13_intro_61 (by decide) (fun c_2 => ?_) (fun c_2 => ?_)
    · skip
      have c_2' : a2.toInt ≠ 4 := jb_ne (rfl) ((by decide)) c_2
      refine lv_aload_n hx hb dX13_intro_151 rfl (lv_at hl 0 rfl) ?_
      refine lv_bipush (v := 8) hx hb dX13_intro_152 (by decide) ?_
      refine va_callv (A0 := jA base) (H0 := s.heap) (va_runV (As := [.int 8]) (rest := []) ⟨hx, hb, hml, hown, hts⟩ (uX13_failsK l dC dI ca base B hB hAp hB15 G0 s.heap r0 8 pu) (cwV 1 hts (jgV (jWr_64 _ (List.mem_of_getElem? (i := 19) rfl)) (jWr_64 _ (List.mem_of_getElem? (i := 20) rfl)) (jWr_64 _ (List.mem_of_getElem? (i := 21) rfl)) (jWr_12 _ (List.mem_of_getElem? (i := 12) rfl)) (jWr_64 _ (List.mem_of_getElem? (i := 22) rfl))) rfl rfl rfl (by decide +kernel) ⟨by rw [← hR]; exact Nat.le_of_ble_eq_true rfl, by rw [← hR]; exact Nat.le_of_ble_eq_true rfl⟩) ⟨fun a U g mk q => by obtain ⟨q0, q1, q2, qK, q10, q11, q12⟩ := q; exact ⟨q0, q1, q2, jG.calling g mk a qK, q10, q11, q12⟩, hh.recv (C := RX13) (T := TX13) (N := 50) hB15 rfl (by decide) hg_r0 hK, fun U hU hW => ⟨rfl, hU, hh.2.1, hG.step hW hU hh.1, hg_r0, (hh.2.2.1.sub (L1 := [(r0, 15, 34, .int pu)]) [1] rfl), by first | omega | (refine ⟨?_, ?_, ?_, ?_⟩ <;> (first | omega | rfl | assumption | decide | exact Or.inl rfl | exact Or.inr rfl | (simp only; omega)))⟩⟩ rfl rfl hl.1 rfl (lv_room (Nat.le_of_ble_eq_true rfl)) dX13_intro_154 ⟨Nat.zero_le _, Nat.zero_le _⟩) hh.1 (fun q _ h => h) (fun q h => h) (fun u_3 t_3 H_3 locs_3 ht_3 hvm_3 hr_4 hb_3 hz_3 hk_3 hS_3 => ?_)
      obtain ⟨qu_3, rfl⟩ : ∃ z, z = u_3 := ⟨_, rfl⟩
      rw [ht_3] at hb_3
      obtain ⟨hb_31, hb_32, hb_33, hb_34, hb_35⟩ := hb_3
      have hh_3 : jSt (dC, dI) B base G0 G0 EX13_intro s.heap 0 0 [(r0, 15, 34, .int qu_3), (r0, 15, 5, .int pn), (r0, 15, 11, .int py), (r0, 15, 21, .int pg), (r0, 15, 22, .ref zg), (r0, 15, 25, .ref zh), (r0, 15, 27, .ref zp), (r0, 15, 23, .ref zv), (r0, 15, 0, .ref zs), (r0, 15, 1, .ref zn), (r0, 15, 2, .ref za), (r0, 15, 3, .ref zb), (r0, 15, 4, .ref zc), (r0, 15, 14, .ref zy)] [(zg, 161, 46, ca 1, fg), (zh, 159, 46, ca 1, fh), (zp, 162, 368, ca 1, fp), (zv, 158, 46, ca 1, fv), (zs, 150, 120000, ca 1, C.s), (zn, 151, 120000, ca 1, C.n), (za, 152, 120000, ca 1, C.a), (zb, 153, 120000, ca 1, C.b), (zc, 154, 120000, ca 1, C.c), (zy, 165, 16, ca 1, C.y)] [] H_3 locs_3 := ((hh.call hb_31 hb_32 hb_33 hb_34 hS_3 rfl (L1 := [(r0, 15, 5, .int pn), (r0, 15, 11, .int py), (r0, 15, 21, .int pg), (r0, 15, 22, .ref zg), (r0, 15, 25, .ref zh), (r0, 15, 27, .ref zp), (r0, 15, 23, .ref zv), (r0, 15, 0, .ref zs), (r0, 15, 1, .ref zn), (r0, 15, 2, .ref za), (r0, 15, 3, .ref zb), (r0, 15, 4, .ref zc), (r0, 15, 14, .ref zy)]) [0, 2, 3, 4, 5, 6, 7, 8, 9, 10, 11, 12, 13] rfl rfl (M1 := [(zg, 161, 46, ca 1, fg), (zh, 159, 46, ca 1, fh), (zp, 162, 368, ca 1, fp), (zv, 158, 46, ca 1, fv), (zs, 150, 120000, ca 1, C.s), (zn, 151, 120000, ca 1, C.n), (za, 152, 120000, ca 1, C.a), (zb, 153, 120000, ca 1, C.b), (zc, 154, 120000, ca 1, C.c), (zy, 165, 16, ca 1, C.y)]) [0, 1, 2, 3, 4, 5, 6, 7, 8, 9] rfl rfl (I1 := []) [] rfl rfl).more hb_35)
      clear hh ht_3 hvm_3 hz_3 hk_3 hS_3 hb_31 hb_32 hb_33 hb_34 hb_35
      obtain ⟨hr_4_0, hr_4_1, hr_4_2, hr_4_3⟩ := hr_4
      rw [hQ]
      exact W.vret hx hb hr (fun t ht hW => ⟨⟨(pn, qu_3, fg, fh, fp, C), rfl, by (try dsimp only); exact ⟨by omega, by omega, by omega, by omega, jAgK.rf _ _, hp0⟩, ⟨hh_3.rt (M1 := [(r0, 15, 5, .int pn), (r0, 15, 34, .int qu_3)]) [1, 0] rfl ht, by rw [ht]; exact hh_3.2.2.2.2.2.2.2.1.sub [0, 1, 2, 4, 5, 6, 7, 8, 9] rfl⟩⟩, by rw [ht]; try exact hh_3.1.1, fun q h9 hq => by rw [ht]; try exact hh_3.1.2.1 q h9 hq⟩) hh_3.1.2.2 dX13_intro_157
    · skip
      have c_2' : a2.toInt = 4 := jb_ne_n (rfl) ((by decide)) c_2
      refine lv_aload_n hx hb dX13_intro_64 rfl (lv_at hl 0 rfl) ?_
      refine j7_read hx hb hown hK (C := RX13) (T := TX13) (N := 50) rfl hly_15_23 hlk_56 (hh.at 7 rfl) dX13_intro_65 ?_
      refine lv_iconst (v := 0) hx hb dX13_intro_68 (by decide) ?_
      refine j7_ialdM hx hb hK hh hB158 1 rfl (by decide) hg_zv (x := 0) ((by decide)) (by omega) (j := 3) rfl dX13_intro_69 (fun z_5 ez_5 (hz_5 : 0 ≤ z_5.toInt ∧ z_5.toInt ≤ 6) => ?_)
      have hqz_5 : z_5.toInt = jSo fv (0) := by unfold jSo; rw [ez_5]
      refine lv_bipush (v := 6) hx hb dX13_intro_70 (by decide) ?_
      refine lv_icmp_ne (tgt := 81) hx hb dX13_intro_72 (by decide) (fun c_6 => ?_) (fun c_6 => ?_)
      · skip
        have c_6' : z_5.toInt ≠ 6 := jb_ne (rfl) ((by decide)) c_6
        refine lv_aload_n hx hb dX13_intro_81 rfl (lv_at hl 0 rfl) ?_
        refine j7_read hx hb hown hK (C := RX13) (T := TX13) (N := 50) rfl hly_15_34 hlk_221 (hh.at 1 rfl) dX13_intro_82 ?_
        refine lv_if_le (tgt := 89) hx hb dX13_intro_85 (by decide) (fun c_7 => ?_) (fun c_7 => ?_)
        · skip
          have c_7' : pu.toInt ≤ 0 := jb_le (rfl) ((by decide)) c_7
          refine lv_aload_n hx hb dX13_intro_89 rfl (lv_at hl 0 rfl) ?_
          refine lv_iload_n hx hb dX13_intro_90 rfl (lv_at hl 1 rfl) ?_
          refine lv_aload_n hx hb dX13_intro_91 rfl (lv_at hl 0 rfl) ?_
          refine lv_bipush (v := 9) hx hb dX13_intro_92 (by decide) ?_
          refine lv_aload_n hx hb dX13_intro_94 rfl (lv_at hl 0 rfl) ?_
          obtain ⟨v_8, hv_8, hh_9⟩ := hh.pin (C := RX13) (T := TX13) (N := 50) hB15 rfl (by decide) hg_r0 (i := 38) (by decide) rfl
          clear hh
          obtain ⟨name1_10, rfl, hloname1_10, hhiname1_10⟩ := hv_8
          refine j7_read hx hb hown hK (C := RX13) (T := TX13) (N := 50) rfl hly_15_38 hlk_291 (hh_9.at 0 rfl) dX13_intro_95 ?_
          refine lv_iconst (v := 0) hx hb dX13_intro_98 (by decide) ?_
          refine lv_iconst (v := 0) hx hb dX13_intro_99 (by decide) ?_
          refine lv_iconst (v := 0) hx hb dX13_intro_100 (by decide) ?_
          refine va_calli (A0 := jA base) (H0 := s.heap) (va_runV (As := [.int 9, .int name1_10, .int 0, .int 0, .int 0]) (rest := [.int a1, .ref r0]) ⟨hx, hb, hml, hown, hts⟩ (uX13_nodeK l dC dI ca base B hB hAp hB15 hB150 hB151 hB152 hB153 hB154 hB165 G0 s.heap r0 9 name1_10 0 0 0 pn zs zn za zb zc zy C) (cwV 5 hts (jgV (jWr_62 _ (List.mem_of_getElem? (i := 9) rfl)) (jWr_62 _ (List.mem_of_getElem? (i := 10) rfl)) (jWr_62 _ (List.mem_of_getElem? (i := 11) rfl)) (jWr_12 _ (List.mem_of_getElem? (i := 12) rfl)) (jWr_62 _ (List.mem_of_getElem? (i := 12) rfl))) rfl rfl rfl (by decide +kernel) ⟨by rw [← hR]; exact Nat.le_of_ble_eq_true rfl, by rw [← hR]; exact Nat.le_of_ble_eq_true rfl⟩) ⟨fun a U g mk q => by obtain ⟨q0, q1, q2, qK, q10, q11, q12, q13, q14, q15, q16, q17, q18, q19⟩ := q; exact ⟨q0, q1, q2, jG.calling g mk a qK, q10, q11, q12, q13, q14, q15, q16, q17, q18, q19⟩, hh_9.recv (C := RX13) (T := TX13) (N := 50) hB15 rfl (by decide) hg_r0 hK, fun U hU hW => ⟨rfl, hU, hh_9.2.1, hG.step hW hU hh_9.1, hg_r0, hg_zs, hg_zn, hg_za, hg_zb, hg_zc, hg_zy, (hh_9.2.2.1.sub (L1 := [(r0, 15, 5, .int pn), (r0, 15, 0, .ref zs), (r0, 15, 1, .ref zn), (r0, 15, 2, .ref za), (r0, 15, 3, .ref zb), (r0, 15, 4, .ref zc), (r0, 15, 14, .ref zy)]) [1, 9, 10, 11, 12, 13, 14] rfl), (hh_9.2.2.2.2.2.2.2.1.sub (L1 := [(zs, 150, 120000, ca 1, C.s), (zn, 151, 120000, ca 1, C.n), (za, 152, 120000, ca 1, C.a), (zb, 153, 120000, ca 1, C.b), (zc, 154, 120000, ca 1, C.c), (zy, 165, 16, ca 1, C.y)]) [4, 5, 6, 7, 8, 9] rfl), by first | omega | (refine ⟨?_, ?_⟩ <;> (first | omega | rfl | assumption | decide | exact Or.inl rfl | exact Or.inr rfl | (simp only; omega)))⟩⟩ rfl rfl hl.1 rfl (lv_room (Nat.le_of_ble_eq_true rfl)) dX13_intro_101 ⟨Nat.zero_le _, Nat.zero_le _⟩) hh_9.1 (fun q _ h => h) (fun q h => h) (fun r_12 u_11 t_11 H_11 locs_11 ht_11 hvm_11 hr_12 hb_11 hz_11 hk_11 hS_11 => ?_)
          obtain ⟨qn_11, D_11⟩ := u_11
          rw [ht_11] at hb_11
          obtain ⟨⟨hb_111, hb_112, hb_113, hb_114, hb_115⟩, hb_116⟩ := hb_11
          have hh_11 : jSt (dC, dI) B base G0 G0 EX13_intro s.heap 0 0 [(r0, 15, 5, .int qn_11), (r0, 15, 38, .int name1_10), (r0, 15, 34, .int pu), (r0, 15, 11, .int py), (r0, 15, 21, .int pg), (r0, 15, 22, .ref zg), (r0, 15, 25, .ref zh), (r0, 15, 27, .ref zp), (r0, 15, 23, .ref zv), (r0, 15, 0, .ref zs), (r0, 15, 1, .ref zn), (r0, 15, 2, .ref za), (r0, 15, 3, .ref zb), (r0, 15, 4, .ref zc), (r0, 15, 14, .ref zy)] [(zs, 150, 120000, ca 1, D_11.s), (zn, 151, 120000, ca 1, D_11.n), (za, 152, 120000, ca 1, D_11.a), (zb, 153, 120000, ca 1, D_11.b), (zc, 154, 120000, ca 1, D_11.c), (zy, 165, 16, ca 1, D_11.y), (zg, 161, 46, ca 1, fg), (zh, 159, 46, ca 1, fh), (zp, 162, 368, ca 1, fp), (zv, 158, 46, ca 1, fv), (zy, 165, 16, ca 1, C.y)] [] H_11 locs_11 := ((hh_9.call hb_111 hb_112 hb_113 hb_114 hS_11 rfl (L1 := [(r0, 15, 38, .int name1_10), (r0, 15, 34, .int pu), (r0, 15, 11, .int py), (r0, 15, 21, .int pg), (r0, 15, 22, .ref zg), (r0, 15, 25, .ref zh), (r0, 15, 27, .ref zp), (r0, 15, 23, .ref zv), (r0, 15, 0, .ref zs), (r0, 15, 1, .ref zn), (r0, 15, 2, .ref za), (r0, 15, 3, .ref zb), (r0, 15, 4, .ref zc), (r0, 15, 14, .ref zy)]) [0, 2, 3, 4, 5, 6, 7, 8, 9, 10, 11, 12, 13, 14] rfl rfl (M1 := [(zg, 161, 46, ca 1, fg), (zh, 159, 46, ca 1, fh), (zp, 162, 368, ca 1, fp), (zv, 158, 46, ca 1, fv), (zy, 165, 16, ca 1, C.y)]) [0, 1, 2, 3, 9] rfl rfl (I1 := []) [] rfl rfl).more hb_115).moreM hb_116
          clear hh_9 ht_11 hvm_11 hz_11 hk_11 hS_11 hb_111 hb_112 hb_113 hb_114 hb_115
          clear hb_116
          try simp only at hr_12
          obtain ⟨hr_12_0, hr_12_1, hr_12_2⟩ := hr_12
          rw [hk9] at hr_12_2
          have v1 := jMk0 (e := 1600) (b := 0) (Y := py.toInt) hr_12_2 (by omega) (by omega) (by omega)
          have g1 := hg0.quant (M := pn.toInt + 1) hr_12_2.1 (by omega) (by omega)
          refine va_calli (A0 := jA base) (H0 := s.heap) (va_runV (As := [.int a1, .int r_12]) (rest := []) ⟨hx, hb, hml, hown, hts⟩ (uX13_opened l dC dI ca base B hB hAp hB15 hB150 hB151 hB152 hB153 hB154 hB165 hB169 G0 H_11 r0 a1 r_12 qn_11 py pu zs zn za zb zc zy D_11) (cwV 2 hts (jgV (jWr_66 _ (List.mem_of_getElem? (i := 23) rfl)) (jWr_67 _ (List.mem_of_getElem? (i := 0) rfl)) (jWr_67 _ (List.mem_of_getElem? (i := 1) rfl)) (jWr_12 _ (List.mem_of_getElem? (i := 12) rfl)) (jWr_67 _ (List.mem_of_getElem? (i := 2) rfl))) rfl rfl rfl (by decide +kernel) ⟨by rw [← hR]; exact Nat.le_of_ble_eq_true rfl, by rw [← hR]; exact Nat.le_of_ble_eq_true rfl⟩) ⟨fun a U g mk q => by obtain ⟨q0, q1, q2, qK, q10, q11, q12, q13, q14, q15, q16, q17, q18, q19⟩ := q; exact ⟨q0, q1, q2, jG.calling g mk a qK, q10, q11, q12, q13, q14, q15, q16, q17, q18, q19⟩, hh_11.recv (C := RX13) (T := TX13) (N := 50) hB15 rfl (by decide) hg_r0 hK, fun U hU hW => ⟨rfl, hU, hh_11.2.1, hG.step hW hU hh_11.1, hg_r0, hg_zs, hg_zn, hg_za, hg_zb, hg_zc, hg_zy, (hh_11.2.2.1.sub (L1 := [(r0, 15, 5, .int qn_11), (r0, 15, 11, .int py), (r0, 15, 34, .int pu), (r0, 15, 0, .ref zs), (r0, 15, 1, .ref zn), (r0, 15, 2, .ref za), (r0, 15, 3, .ref zb), (r0, 15, 4, .ref zc), (r0, 15, 14, .ref zy)]) [0, 3, 2, 9, 10, 11, 12, 13, 14] rfl), (hh_11.2.2.2.2.2.2.2.1.sub (L1 := [(zs, 150, 120000, ca 1, D_11.s), (zn, 151, 120000, ca 1, D_11.n), (za, 152, 120000, ca 1, D_11.a), (zb, 153, 120000, ca 1, D_11.b), (zc, 154, 120000, ca 1, D_11.c), (zy, 165, 16, ca 1, D_11.y)]) [0, 1, 2, 3, 4, 5] rfl), ⟨(by first | assumption | (rw [hr_12_1]; exact g1.1) | (rw [hr_12_1]; exact g1.2.1) | exact g1.1 | exact g1.2.1 | (rw [hr_12_1]; exact g1.2.2.1) | exact g1.2.2.2 | (rw [hr_12_0, hr_12_1]; exact v1.1) | (rw [hr_12_0, v1.2]; omega) | omega), (by first | omega | rfl | assumption | (rw [hr_12_1]; exact g1.1) | (rw [hr_12_1]; exact g1.2.1) | exact g1.1 | exact g1.2.1 | (rw [hr_12_1]; exact g1.2.2.1) | exact g1.2.2.2 | (rw [hr_12_0, hr_12_1]; exact v1.1) | (rw [hr_12_0, v1.2]; omega)), (by first | omega | rfl | assumption | (rw [hr_12_1]; exact g1.1) | (rw [hr_12_1]; exact g1.2.1) | exact g1.1 | exact g1.2.1 | (rw [hr_12_1]; exact g1.2.2.1) | exact g1.2.2.2 | (rw [hr_12_0, hr_12_1]; exact v1.1) | (rw [hr_12_0, v1.2]; omega)), (by first | omega | rfl | assumption | (rw [hr_12_1]; exact g1.1) | (rw [hr_12_1]; exact g1.2.1) | exact g1.1 | exact g1.2.1 | (rw [hr_12_1]; exact g1.2.2.1) | exact g1.2.2.2 | (rw [hr_12_0, hr_12_1]; exact v1.1) | (rw [hr_12_0, v1.2]; omega)), (by first | assumption | (rw [hr_12_1]; exact g1.1) | (rw [hr_12_1]; exact g1.2.1) | exact g1.1 | exact g1.2.1 | (rw [hr_12_1]; exact g1.2.2.1) | exact g1.2.2.2 | (rw [hr_12_0, hr_12_1]; exact v1.1) | (rw [hr_12_0, v1.2]; omega) | omega), (by first | omega | rfl | assumption | (rw [hr_12_1]; exact g1.1) | (rw [hr_12_1]; exact g1.2.1) | exact g1.1 | exact g1.2.1 | (rw [hr_12_1]; exact g1.2.2.1) | exact g1.2.2.2 | (rw [hr_12_0, hr_12_1]; exact v1.1) | (rw [hr_12_0, v1.2]; omega)), (by first | omega | rfl | assumption | (rw [hr_12_1]; exact g1.1) | (rw [hr_12_1]; exact g1.2.1) | exact g1.1 | exact g1.2.1 | (rw [hr_12_1]; exact g1.2.2.1) | exact g1.2.2.2 | (rw [hr_12_0, hr_12_1]; exact v1.1) | (rw [hr_12_0, v1.2]; omega)), (by first | omega | rfl | assumption | (rw [hr_12_1]; exact g1.1) | (rw [hr_12_1]; exact g1.2.1) | exact g1.1 | exact g1.2.1 | (rw [hr_12_1]; exact g1.2.2.1) | exact g1.2.2.2 | (rw [hr_12_0, hr_12_1]; exact v1.1) | (rw [hr_12_0, v1.2]; omega)), (by first | omega | rfl | assumption | (rw [hr_12_1]; exact g1.1) | (rw [hr_12_1]; exact g1.2.1) | exact g1.1 | exact g1.2.1 | (rw [hr_12_1]; exact g1.2.2.1) | exact g1.2.2.2 | (rw [hr_12_0, hr_12_1]; exact v1.1) | (rw [hr_12_0, v1.2]; omega)), (by first | omega | rfl | assumption | (rw [hr_12_1]; exact g1.1) | (rw [hr_12_1]; exact g1.2.1) | exact g1.1 | exact g1.2.1 | (rw [hr_12_1]; exact g1.2.2.1) | exact g1.2.2.2 | (rw [hr_12_0, hr_12_1]; exact v1.1) | (rw [hr_12_0, v1.2]; omega)), (by first | omega | rfl | assumption | (rw [hr_12_1]; exact g1.1) | (rw [hr_12_1]; exact g1.2.1) | exact g1.1 | exact g1.2.1 | (rw [hr_12_1]; exact g1.2.2.1) | exact g1.2.2.2 | (rw [hr_12_0, hr_12_1]; exact v1.1) | (rw [hr_12_0, v1.2]; omega)), (by first | omega | rfl | assumption | (rw [hr_12_1]; exact g1.1) | (rw [hr_12_1]; exact g1.2.1) | exact g1.1 | exact g1.2.1 | (rw [hr_12_1]; exact g1.2.2.1) | exact g1.2.2.2 | (rw [hr_12_0, hr_12_1]; exact v1.1) | (rw [hr_12_0, v1.2]; omega))⟩⟩⟩ rfl rfl hl.1 rfl (lv_room (Nat.le_of_ble_eq_true rfl)) dX13_intro_104 ⟨Nat.zero_le _, Nat.zero_le _⟩) hh_11.1 (fun q _ h => h) (fun q h => h) (fun r_14 u_13 t_13 H_13 locs_13 ht_13 hvm_13 hr_14 hb_13 hz_13 hk_13 hS_13 => ?_)
          obtain ⟨qn_13, qu_13, D_13⟩ := u_13
          rw [ht_13] at hb_13
          obtain ⟨⟨hb_131, hb_132, hb_133, hb_134, hb_135⟩, hb_136⟩ := hb_13
          have hh_13 : jSt (dC, dI) B base G0 G0 EX13_intro s.heap 0 0 [(r0, 15, 5, .int qn_13), (r0, 15, 34, .int qu_13), (r0, 15, 38, .int name1_10), (r0, 15, 11, .int py), (r0, 15, 21, .int pg), (r0, 15, 22, .ref zg), (r0, 15, 25, .ref zh), (r0, 15, 27, .ref zp), (r0, 15, 23, .ref zv), (r0, 15, 0, .ref zs), (r0, 15, 1, .ref zn), (r0, 15, 2, .ref za), (r0, 15, 3, .ref zb), (r0, 15, 4, .ref zc), (r0, 15, 14, .ref zy)] [(zs, 150, 120000, ca 1, D_13.s), (zn, 151, 120000, ca 1, D_13.n), (za, 152, 120000, ca 1, D_13.a), (zb, 153, 120000, ca 1, D_13.b), (zc, 154, 120000, ca 1, D_13.c), (zy, 165, 16, ca 1, D_13.y), (zy, 165, 16, ca 1, D_11.y), (zg, 161, 46, ca 1, fg), (zh, 159, 46, ca 1, fh), (zp, 162, 368, ca 1, fp), (zv, 158, 46, ca 1, fv), (zy, 165, 16, ca 1, C.y)] [] H_13 locs_13 := ((hh_11.call hb_131 hb_132 hb_133 hb_134 hS_13 rfl (L1 := [(r0, 15, 38, .int name1_10), (r0, 15, 11, .int py), (r0, 15, 21, .int pg), (r0, 15, 22, .ref zg), (r0, 15, 25, .ref zh), (r0, 15, 27, .ref zp), (r0, 15, 23, .ref zv), (r0, 15, 0, .ref zs), (r0, 15, 1, .ref zn), (r0, 15, 2, .ref za), (r0, 15, 3, .ref zb), (r0, 15, 4, .ref zc), (r0, 15, 14, .ref zy)]) [1, 3, 4, 5, 6, 7, 8, 9, 10, 11, 12, 13, 14] rfl rfl (M1 := [(zy, 165, 16, ca 1, D_11.y), (zg, 161, 46, ca 1, fg), (zh, 159, 46, ca 1, fh), (zp, 162, 368, ca 1, fp), (zv, 158, 46, ca 1, fv), (zy, 165, 16, ca 1, C.y)]) [5, 6, 7, 8, 9, 10] rfl rfl (I1 := []) [] rfl rfl).more hb_135).moreM hb_136
          clear hh_11 ht_13 hvm_13 hz_13 hk_13 hS_13 hb_131 hb_132 hb_133 hb_134 hb_135
          clear hb_136
          try simp only at hr_14
          obtain ⟨hr_14_0, hr_14_1, hr_14_2, hr_14_3, hr_14_4, hr_14_5⟩ := hr_14
          refine lv_istore_n (lv' := [(3, .int r_14), (0, .ref r0), (1, .int a1), (2, .int a2)]) hx hb dX13_intro_107 rfl hl (by decide) rfl (fun ls hl => ?_)
          refine lv_aload_n hx hb dX13_intro_108 rfl (lv_at hl 1 rfl) ?_
          refine j7_read hx hb hown hK (C := RX13) (T := TX13) (N := 50) rfl hly_15_34 hlk_221 (hh_13.at 1 rfl) dX13_intro_109 ?_
          refine lv_if_le (tgt := 116) hx hb dX13_intro_112 (by decide) (fun c_15 => ?_) (fun c_15 => ?_)
          · skip
            have c_15' : qu_13.toInt ≤ 0 := jb_le (rfl) ((by decide)) c_15
            have hb5 := (hr_14_5 (by omega)).1.nd
            have hb6 := hb5.1
            have hb7 := hb5.2.1
            refine lv_aload_n hx hb dX13_intro_116 rfl (lv_at hl 1 rfl) ?_
            obtain ⟨v_16, hv_16, hh_17⟩ := hh_13.pin (C := RX13) (T := TX13) (N := 50) hB15 rfl (by decide) hg_r0 (i := 24) (by decide) rfl
            clear hh_13
            obtain ⟨varName_18, rfl, hg_varName_18⟩ := hv_16
            refine j7_read hx hb hown hK (C := RX13) (T := TX13) (N := 50) rfl hly_15_24 hlk_59 (hh_17.at 0 rfl) dX13_intro_117 ?_
            refine lv_aload_n hx hb dX13_intro_120 rfl (lv_at hl 1 rfl) ?_
            refine j7_read hx hb hown hK (C := RX13) (T := TX13) (N := 50) rfl hly_15_23 hlk_56 (hh_17.at 9 rfl) dX13_intro_121 ?_
            refine lv_iconst (v := 0) hx hb dX13_intro_124 (by decide) ?_
            refine j7_ialdM hx hb hK hh_17 hB158 1 rfl (by decide) hg_zv (x := 0) ((by decide)) (by omega) (j := 10) rfl dX13_intro_125 (fun z_19 ez_19 (hz_19 : 0 ≤ z_19.toInt ∧ z_19.toInt ≤ 6) => ?_)
            have hqz_19 : z_19.toInt = jSo fv (0) := by unfold jSo; rw [ez_19]
            refine lv_aload_n hx hb dX13_intro_126 rfl (lv_at hl 1 rfl) ?_
            refine j7_read hx hb hown hK (C := RX13) (T := TX13) (N := 50) rfl hly_15_38 hlk_291 (hh_17.at 3 rfl) dX13_intro_127 ?_
            refine j7_iast hx hb hK hh_17 hB hB163 1 rfl (by decide) (by decide) rfl rfl rfl hg_varName_18 (x := z_19.toInt) (rfl) (by omega) (by first | omega | (refine ⟨?_, ?_⟩ <;> (first | omega | rfl | assumption | decide | exact Or.inl rfl | exact Or.inr rfl | (simp only; omega)))) dX13_intro_130 (fun H_20 locs_20 hh_20 => ?_)
            clear hh_17
            refine lv_aload_n hx hb dX13_intro_131 rfl (lv_at hl 1 rfl) ?_
            refine j7_read hx hb hown hK (C := RX13) (T := TX13) (N := 50) rfl hly_15_23 hlk_56 (hh_20.at 9 rfl) dX13_intro_132 ?_
            refine lv_iconst (v := 0) hx hb dX13_intro_135 (by decide) ?_
            refine lv_dup2_11 hx hb dX13_intro_136 rfl rfl ?_
            refine j7_ialdM hx hb hK hh_20 hB158 1 rfl (by decide) hg_zv (x := 0) ((by decide)) (by omega) (j := 10) rfl dX13_intro_137 (fun z_21 ez_21 (hz_21 : 0 ≤ z_21.toInt ∧ z_21.toInt ≤ 6) => ?_)
            have hqz_21 : z_21.toInt = jSo fv (0) := by unfold jSo; rw [ez_21]
            refine lv_iconst (v := 1) hx hb dX13_intro_138 (by decide) ?_
            refine lv_iadd hx hb dX13_intro_139 ?_
            refine lv_topi (fun z_22 ez_22 => ?_)
            have hz_22 : z_22.toInt = z_21.toInt + 1 := by rw [ez_22]; exact jb_iadd2 (rfl) ((by decide)) (by omega)
            refine j7_iastU hx hb hK hh_20 hB hB158 1 rfl (by decide) (by decide) rfl 10 rfl (M1 := [(zs, 150, 120000, ca 1, D_13.s), (zn, 151, 120000, ca 1, D_13.n), (za, 152, 120000, ca 1, D_13.a), (zb, 153, 120000, ca 1, D_13.b), (zc, 154, 120000, ca 1, D_13.c), (zy, 165, 16, ca 1, D_13.y), (zy, 165, 16, ca 1, D_11.y), (zg, 161, 46, ca 1, fg), (zh, 159, 46, ca 1, fh), (zp, 162, 368, ca 1, fp), (zy, 165, 16, ca 1, C.y)]) [0, 1, 2, 3, 4, 5, 6, 7, 8, 9, 11] rfl rfl rfl hg_zv (x := 0) ((by decide)) (by omega) (by first | omega | (refine ⟨?_, ?_⟩ <;> (first | omega | rfl | assumption | decide | exact Or.inl rfl | exact Or.inr rfl | (simp only; omega)))) dX13_intro_140 (fun H_23 locs_23 fs_24 hv_23 ho_23 hh_23 => ?_)
            have hv_23 : jSo fs_24 (0) = z_22.toInt := by unfold jSo; rw [hv_23]; try exact rfl
            clear hh_20
            refine lv_aload_n hx hb dX13_intro_141 rfl (lv_at hl 1 rfl) ?_
            refine j7_read hx hb hown hK (C := RX13) (T := TX13) (N := 50) rfl hly_15_22 hlk_53 (hh_23.at 6 rfl) dX13_intro_142 ?_
            refine lv_iconst (v := 0) hx hb dX13_intro_145 (by decide) ?_
            refine lv_iload_n hx hb dX13_intro_146 rfl (lv_at hl 0 rfl) ?_
            refine j7_iastU hx hb hK hh_23 hB hB161 1 rfl (by decide) (by decide) rfl 8 rfl (M1 := [(zv, 158, 46, ca 1, fs_24), (zs, 150, 120000, ca 1, D_13.s), (zn, 151, 120000, ca 1, D_13.n), (za, 152, 120000, ca 1, D_13.a), (zb, 153, 120000, ca 1, D_13.b), (zc, 154, 120000, ca 1, D_13.c), (zy, 165, 16, ca 1, D_13.y), (zy, 165, 16, ca 1, D_11.y), (zh, 159, 46, ca 1, fh), (zp, 162, 368, ca 1, fp), (zy, 165, 16, ca 1, C.y)]) [0, 1, 2, 3, 4, 5, 6, 7, 9, 10, 11] rfl rfl rfl hg_zg (x := 0) ((by decide)) (by omega) (by first | omega | (refine ⟨?_, ?_⟩ <;> (first | omega | rfl | assumption | decide | exact Or.inl rfl | exact Or.inr rfl | (simp only; omega)))) dX13_intro_147 (fun H_25 locs_25 fs_26 hv_25 ho_25 hh_25 => ?_)
            have hv_25 : jSo fs_26 (0) = r_14.toInt := by unfold jSo; rw [hv_25]; try exact rfl
            clear hh_23
            refine lv_goto (tgt := 157) hx hb dX13_intro_148 (by decide) ?_
            rw [hQ]
            exact W.vret hx hb hr (fun t ht hW => ⟨⟨(qn_13, qu_13, fs_26, fh, fp, D_13), rfl, by
    try dsimp only
    have hA := hr_12_2.1.tr hr_14_2 (by omega)
    refine ⟨by omega, by omega, by omega, by omega, hA, ?_⟩
    exact (hp0.mono (fun x q => q.ag hA (by omega))).set (jUpd.mk (n := 46) hv_25 ho_25 rfl (by omega)) (hr_14_5 (by omega)) (by omega), ⟨hh_25.rt (M1 := [(r0, 15, 5, .int qn_13), (r0, 15, 34, .int qu_13)]) [1, 2] rfl ht, by rw [ht]; exact hh_25.2.2.2.2.2.2.2.1.sub [0, 9, 10, 2, 3, 4, 5, 6, 7] rfl⟩⟩, by rw [ht]; try exact hh_25.1.1, fun q h9 hq => by rw [ht]; try exact hh_25.1.2.1 q h9 hq⟩) hh_25.1.2.2 dX13_intro_157
          · skip
            have c_15' : qu_13.toInt > 0 := jb_le_n (rfl) ((by decide)) c_15
            rw [hQ]
            exact W.vret hx hb hr (fun t ht hW => ⟨⟨(qn_13, qu_13, fg, fh, fp, D_13), rfl, by
    try dsimp only
    have hA := hr_12_2.1.tr hr_14_2 (by omega)
    exact ⟨by omega, by omega, by omega, by omega, hA, hp0.mono (fun x q => q.ag hA (by omega))⟩, ⟨hh_13.rt (M1 := [(r0, 15, 5, .int qn_13), (r0, 15, 34, .int qu_13)]) [0, 1] rfl ht, by rw [ht]; exact hh_13.2.2.2.2.2.2.2.1.sub [7, 8, 9, 0, 1, 2, 3, 4, 5] rfl⟩⟩, by rw [ht]; try exact hh_13.1.1, fun q h9 hq => by rw [ht]; try exact hh_13.1.2.1 q h9 hq⟩) hh_13.1.2.2 dX13_intro_115
        · skip
          have c_7' : pu.toInt > 0 := jb_le_n (rfl) ((by decide)) c_7
          rw [hQ]
          exact W.vret hx hb hr (fun t ht hW => ⟨⟨(pn, pu, fg, fh, fp, C), rfl, by (try dsimp only); exact ⟨by omega, by omega, by omega, by omega, jAgK.rf _ _, hp0⟩, ⟨hh.rt (M1 := [(r0, 15, 5, .int pn), (r0, 15, 34, .int pu)]) [0, 1] rfl ht, by rw [ht]; exact hh.2.2.2.2.2.2.2.1.sub [0, 1, 2, 4, 5, 6, 7, 8, 9] rfl⟩⟩, by rw [ht]; try exact hh.1.1, fun q h9 hq => by rw [ht]; try exact hh.1.2.1 q h9 hq⟩) hh.1.2.2 dX13_intro_88
      · skip
        have c_6' : z_5.toInt = 6 := jb_ne_n (rfl) ((by decide)) c_6
        refine lv_aload_n hx hb dX13_intro_75 rfl (lv_at hl 0 rfl) ?_
        refine lv_bipush (v := 9) hx hb dX13_intro_76 (by decide) ?_
        refine va_callv (A0 := jA base) (H0 := s.heap) (va_runV (As := [.int 9]) (rest := []) ⟨hx, hb, hml, hown, hts⟩ (uX13_failsK l dC dI ca base B hB hAp hB15 G0 s.heap r0 9 pu) (cwV 1 hts (jgV (jWr_64 _ (List.mem_of_getElem? (i := 19) rfl)) (jWr_64 _ (List.mem_of_getElem? (i := 20) rfl)) (jWr_64 _ (List.mem_of_getElem? (i := 21) rfl)) (jWr_12 _ (List.mem_of_getElem? (i := 12) rfl)) (jWr_64 _ (List.mem_of_getElem? (i := 22) rfl))) rfl rfl rfl (by decide +kernel) ⟨by rw [← hR]; exact Nat.le_of_ble_eq_true rfl, by rw [← hR]; exact Nat.le_of_ble_eq_true rfl⟩) ⟨fun a U g mk q => by obtain ⟨q0, q1, q2, qK, q10, q11, q12⟩ := q; exact ⟨q0, q1, q2, jG.calling g mk a qK, q10, q11, q12⟩, hh.recv (C := RX13) (T := TX13) (N := 50) hB15 rfl (by decide) hg_r0 hK, fun U hU hW => ⟨rfl, hU, hh.2.1, hG.step hW hU hh.1, hg_r0, (hh.2.2.1.sub (L1 := [(r0, 15, 34, .int pu)]) [1] rfl), by first | omega | (refine ⟨?_, ?_, ?_, ?_⟩ <;> (first | omega | rfl | assumption | decide | exact Or.inl rfl | exact Or.inr rfl | (simp only; omega)))⟩⟩ rfl rfl hl.1 rfl (lv_room (Nat.le_of_ble_eq_true rfl)) dX13_intro_78 ⟨Nat.zero_le _, Nat.zero_le _⟩) hh.1 (fun q _ h => h) (fun q h => h) (fun u_27 t_27 H_27 locs_27 ht_27 hvm_27 hr_28 hb_27 hz_27 hk_27 hS_27 => ?_)
        obtain ⟨qu_27, rfl⟩ : ∃ z, z = u_27 := ⟨_, rfl⟩
        rw [ht_27] at hb_27
        obtain ⟨hb_271, hb_272, hb_273, hb_274, hb_275⟩ := hb_27
        have hh_27 : jSt (dC, dI) B base G0 G0 EX13_intro s.heap 0 0 [(r0, 15, 34, .int qu_27), (r0, 15, 5, .int pn), (r0, 15, 11, .int py), (r0, 15, 21, .int pg), (r0, 15, 22, .ref zg), (r0, 15, 25, .ref zh), (r0, 15, 27, .ref zp), (r0, 15, 23, .ref zv), (r0, 15, 0, .ref zs), (r0, 15, 1, .ref zn), (r0, 15, 2, .ref za), (r0, 15, 3, .ref zb), (r0, 15, 4, .ref zc), (r0, 15, 14, .ref zy)] [(zg, 161, 46, ca 1, fg), (zh, 159, 46, ca 1, fh), (zp, 162, 368, ca 1, fp), (zv, 158, 46, ca 1, fv), (zs, 150, 120000, ca 1, C.s), (zn, 151, 120000, ca 1, C.n), (za, 152, 120000, ca 1, C.a), (zb, 153, 120000, ca 1, C.b), (zc, 154, 120000, ca 1, C.c), (zy, 165, 16, ca 1, C.y)] [] H_27 locs_27 := ((hh.call hb_271 hb_272 hb_273 hb_274 hS_27 rfl (L1 := [(r0, 15, 5, .int pn), (r0, 15, 11, .int py), (r0, 15, 21, .int pg), (r0, 15, 22, .ref zg), (r0, 15, 25, .ref zh), (r0, 15, 27, .ref zp), (r0, 15, 23, .ref zv), (r0, 15, 0, .ref zs), (r0, 15, 1, .ref zn), (r0, 15, 2, .ref za), (r0, 15, 3, .ref zb), (r0, 15, 4, .ref zc), (r0, 15, 14, .ref zy)]) [0, 2, 3, 4, 5, 6, 7, 8, 9, 10, 11, 12, 13] rfl rfl (M1 := [(zg, 161, 46, ca 1, fg), (zh, 159, 46, ca 1, fh), (zp, 162, 368, ca 1, fp), (zv, 158, 46, ca 1, fv), (zs, 150, 120000, ca 1, C.s), (zn, 151, 120000, ca 1, C.n), (za, 152, 120000, ca 1, C.a), (zb, 153, 120000, ca 1, C.b), (zc, 154, 120000, ca 1, C.c), (zy, 165, 16, ca 1, C.y)]) [0, 1, 2, 3, 4, 5, 6, 7, 8, 9] rfl rfl (I1 := []) [] rfl rfl).more hb_275)
        clear hh ht_27 hvm_27 hz_27 hk_27 hS_27 hb_271 hb_272 hb_273 hb_274 hb_275
        obtain ⟨hr_28_0, hr_28_1, hr_28_2, hr_28_3⟩ := hr_28
        refine lv_aload_n hx hb dX13_intro_81 rfl (lv_at hl 0 rfl) ?_
        refine j7_read hx hb hown hK (C := RX13) (T := TX13) (N := 50) rfl hly_15_34 hlk_221 (hh_27.at 0 rfl) dX13_intro_82 ?_
        refine lv_if_le (tgt := 89) hx hb dX13_intro_85 (by decide) (fun c_29 => ?_) (fun c_29 => ?_)
        · skip
          have c_29' : qu_27.toInt ≤ 0 := jb_le (rfl) ((by decide)) c_29
          exact (by omega : False).elim
        · skip
          have c_29' : qu_27.toInt > 0 := jb_le_n (rfl) ((by decide)) c_29
          rw [hQ]
          exact W.vret hx hb hr (fun t ht hW => ⟨⟨(pn, qu_27, fg, fh, fp, C), rfl, by (try dsimp only); exact ⟨by omega, by omega, by omega, by omega, jAgK.rf _ _, hp0⟩, ⟨hh_27.rt (M1 := [(r0, 15, 5, .int pn), (r0, 15, 34, .int qu_27)]) [1, 0] rfl ht, by rw [ht]; exact hh_27.2.2.2.2.2.2.2.1.sub [0, 1, 2, 4, 5, 6, 7, 8, 9] rfl⟩⟩, by rw [ht]; try exact hh_27.1.1, fun q h9 hq => by rw [ht]; try exact hh_27.1.2.1 q h9 hq⟩) hh_27.1.2.2 dX13_intro_88
  · skip
    have c_1' : a2.toInt = 0 := jb_ne_n (rfl) ((by decide)) c_1
    refine lv_aload_n hx hb dX13_intro_4 rfl (lv_at hl 0 rfl) ?_
    refine j7_read hx hb hown hK (C := RX13) (T := TX13) (N := 50) rfl hly_15_25 hlk_62 (hh.at 5 rfl) dX13_intro_5 ?_
    refine lv_iconst (v := 0) hx hb dX13_intro_8 (by decide) ?_
    refine j7_ialdM hx hb hK hh hB159 1 rfl (by decide) hg_zh (x := 0) ((by decide)) (by omega) (j := 1) rfl dX13_intro_9 (fun z_30 ez_30 (hz_30 : 0 ≤ z_30.toInt ∧ z_30.toInt ≤ 8) => ?_)
    have hqz_30 : z_30.toInt = jSo fh (0) := by unfold jSo; rw [ez_30]
    refine lv_bipush (v := 8) hx hb dX13_intro_10 (by decide) ?_
    refine lv_icmp_ne (tgt := 21) hx hb dX13_intro_12 (by decide) (fun c_31 => ?_) (fun c_31 => ?_)
    · skip
      have c_31' : z_30.toInt ≠ 8 := jb_ne (rfl) ((by decide)) c_31
      refine lv_aload_n hx hb dX13_intro_21 rfl (lv_at hl 0 rfl) ?_
      refine j7_read hx hb hown hK (C := RX13) (T := TX13) (N := 50) rfl hly_15_34 hlk_221 (hh.at 1 rfl) dX13_intro_22 ?_
      refine lv_if_le (tgt := 29) hx hb dX13_intro_25 (by decide) (fun c_32 => ?_) (fun c_32 => ?_)
      · skip
        have c_32' : pu.toInt ≤ 0 := jb_le (rfl) ((by decide)) c_32
        have k2 := hg0.sub2 (by omega)
        have ka := k2.1.rng
        have kb := k2.2.1.rng
        refine lv_aload_n hx hb dX13_intro_29 rfl (lv_at hl 0 rfl) ?_
        refine lv_iconst (v := 0) hx hb dX13_intro_30 (by decide) ?_
        refine lv_aload_n hx hb dX13_intro_31 rfl (lv_at hl 0 rfl) ?_
        obtain ⟨v_33, hv_33, hh_34⟩ := hh.pin (C := RX13) (T := TX13) (N := 50) hB15 rfl (by decide) hg_r0 (i := 38) (by decide) rfl
        clear hh
        obtain ⟨name1_35, rfl, hloname1_35, hhiname1_35⟩ := hv_33
        refine j7_read hx hb hown hK (C := RX13) (T := TX13) (N := 50) rfl hly_15_38 hlk_291 (hh_34.at 0 rfl) dX13_intro_32 ?_
        refine lv_aload_n hx hb dX13_intro_35 rfl (lv_at hl 0 rfl) ?_
        refine j7_read hx hb hown hK (C := RX13) (T := TX13) (N := 50) rfl hly_15_2 hlk_19 (hh_34.at 11 rfl) dX13_intro_36 ?_
        refine lv_iload_n hx hb dX13_intro_39 rfl (lv_at hl 1 rfl) ?_
        refine j7_ialdM hx hb hK hh_34 hB152 1 rfl (by decide) hg_za (x := a1.toInt) (rfl) (by omega) (j := 6) rfl dX13_intro_40 (fun z_36 ez_36 (hz_36 : True) => ?_)
        have hqz_36 : z_36.toInt = jSo C.a (a1.toInt) := by unfold jSo; rw [ez_36]
        refine va_callv (A0 := jA base) (H0 := s.heap) (va_runV (As := [.int 0, .int name1_35, .int z_36]) (rest := []) ⟨hx, hb, hml, hown, hts⟩ (uX13_addHyp l dC dI ca base B hB hAp hB15 hB159 hB162 hB163 G0 s.heap r0 0 name1_35 z_36 zh zp fh fp) (cwV 3 hts (jgV (jWr_66 _ (List.mem_of_getElem? (i := 19) rfl)) (jWr_66 _ (List.mem_of_getElem? (i := 20) rfl)) (jWr_66 _ (List.mem_of_getElem? (i := 21) rfl)) (jWr_12 _ (List.mem_of_getElem? (i := 12) rfl)) (jWr_66 _ (List.mem_of_getElem? (i := 22) rfl))) rfl rfl rfl (by decide +kernel) ⟨by rw [← hR]; exact Nat.le_of_ble_eq_true rfl, by rw [← hR]; exact Nat.le_of_ble_eq_true rfl⟩) ⟨fun a U g mk q => by obtain ⟨q0, q1, q2, qK, q10, q11, q12, q13, q14, q15⟩ := q; exact ⟨q0, q1, q2, jG.calling g mk a qK, q10, q11, q12, q13, q14, q15⟩, hh_34.recv (C := RX13) (T := TX13) (N := 50) hB15 rfl (by decide) hg_r0 hK, fun U hU hW => ⟨rfl, hU, hh_34.2.1, hG.step hW hU hh_34.1, hg_r0, hg_zh, hg_zp, (hh_34.2.2.1.sub (L1 := [(r0, 15, 25, .ref zh), (r0, 15, 27, .ref zp)]) [6, 7] rfl), (hh_34.2.2.2.2.2.2.2.1.sub (L1 := [(zh, 159, 46, ca 1, fh), (zp, 162, 368, ca 1, fp)]) [1, 2] rfl), ⟨(by first | omega | rfl | assumption | (rw [hk0]; omega) | (rw [hqz_36]; omega)), (by first | omega | rfl | assumption | (rw [hk0]; omega) | (rw [hqz_36]; omega)), (by first | omega | rfl | assumption | (rw [hk0]; omega) | (rw [hqz_36]; omega)), (by first | omega | rfl | assumption | (rw [hk0]; omega) | (rw [hqz_36]; omega)), (by first | omega | rfl | assumption | (rw [hk0]; omega) | (rw [hqz_36]; omega)), (by first | omega | rfl | assumption | (rw [hk0]; omega) | (rw [hqz_36]; omega)), (by first | omega | rfl | assumption | (rw [hk0]; omega) | (rw [hqz_36]; omega)), (by first | omega | rfl | assumption | (rw [hk0]; omega) | (rw [hqz_36]; omega))⟩⟩⟩ rfl rfl hl.1 rfl (lv_room (Nat.le_of_ble_eq_true rfl)) dX13_intro_41 ⟨Nat.zero_le _, Nat.zero_le _⟩) hh_34.1 (fun q _ h => h) (fun q h => h) (fun u_37 t_37 H_37 locs_37 ht_37 hvm_37 hr_38 hb_37 hz_37 hk_37 hS_37 => ?_)
        obtain ⟨gh_37, gp_37⟩ := u_37
        rw [ht_37] at hb_37
        obtain ⟨⟨hb_371, hb_372, hb_373, hb_374, hb_375⟩, hb_376⟩ := hb_37
        have hh_37 : jSt (dC, dI) B base G0 G0 EX13_intro s.heap 0 0 [(r0, 15, 38, .int name1_35), (r0, 15, 5, .int pn), (r0, 15, 34, .int pu), (r0, 15, 11, .int py), (r0, 15, 21, .int pg), (r0, 15, 22, .ref zg), (r0, 15, 25, .ref zh), (r0, 15, 27, .ref zp), (r0, 15, 23, .ref zv), (r0, 15, 0, .ref zs), (r0, 15, 1, .ref zn), (r0, 15, 2, .ref za), (r0, 15, 3, .ref zb), (r0, 15, 4, .ref zc), (r0, 15, 14, .ref zy)] [(zh, 159, 46, ca 1, gh_37), (zp, 162, 368, ca 1, gp_37), (zg, 161, 46, ca 1, fg), (zv, 158, 46, ca 1, fv), (zs, 150, 120000, ca 1, C.s), (zn, 151, 120000, ca 1, C.n), (za, 152, 120000, ca 1, C.a), (zb, 153, 120000, ca 1, C.b), (zc, 154, 120000, ca 1, C.c), (zy, 165, 16, ca 1, C.y)] [] H_37 locs_37 := ((hh_34.call hb_371 hb_372 hb_373 hb_374 hS_37 rfl (L1 := [(r0, 15, 38, .int name1_35), (r0, 15, 5, .int pn), (r0, 15, 34, .int pu), (r0, 15, 11, .int py), (r0, 15, 21, .int pg), (r0, 15, 22, .ref zg), (r0, 15, 25, .ref zh), (r0, 15, 27, .ref zp), (r0, 15, 23, .ref zv), (r0, 15, 0, .ref zs), (r0, 15, 1, .ref zn), (r0, 15, 2, .ref za), (r0, 15, 3, .ref zb), (r0, 15, 4, .ref zc), (r0, 15, 14, .ref zy)]) [0, 1, 2, 3, 4, 5, 6, 7, 8, 9, 10, 11, 12, 13, 14] rfl rfl (M1 := [(zg, 161, 46, ca 1, fg), (zv, 158, 46, ca 1, fv), (zs, 150, 120000, ca 1, C.s), (zn, 151, 120000, ca 1, C.n), (za, 152, 120000, ca 1, C.a), (zb, 153, 120000, ca 1, C.b), (zc, 154, 120000, ca 1, C.c), (zy, 165, 16, ca 1, C.y)]) [0, 3, 4, 5, 6, 7, 8, 9] rfl rfl (I1 := []) [] rfl rfl).more hb_375).moreM hb_376
        clear hh_34 ht_37 hvm_37 hz_37 hk_37 hS_37 hb_371 hb_372 hb_373 hb_374 hb_375
        clear hb_376
        try simp only at hr_38
        rw [hk0] at hr_38
        refine lv_aload_n hx hb dX13_intro_44 rfl (lv_at hl 0 rfl) ?_
        refine j7_read hx hb hown hK (C := RX13) (T := TX13) (N := 50) rfl hly_15_22 hlk_53 (hh_37.at 5 rfl) dX13_intro_45 ?_
        refine lv_iconst (v := 0) hx hb dX13_intro_48 (by decide) ?_
        refine lv_aload_n hx hb dX13_intro_49 rfl (lv_at hl 0 rfl) ?_
        refine j7_read hx hb hown hK (C := RX13) (T := TX13) (N := 50) rfl hly_15_3 hlk_22 (hh_37.at 12 rfl) dX13_intro_50 ?_
        refine lv_iload_n hx hb dX13_intro_53 rfl (lv_at hl 1 rfl) ?_
        refine j7_ialdM hx hb hK hh_37 hB153 1 rfl (by decide) hg_zb (x := a1.toInt) (rfl) (by omega) (j := 7) rfl dX13_intro_54 (fun z_39 ez_39 (hz_39 : True) => ?_)
        have hqz_39 : z_39.toInt = jSo C.b (a1.toInt) := by unfold jSo; rw [ez_39]
        refine j7_iastU hx hb hK hh_37 hB hB161 1 rfl (by decide) (by decide) rfl 2 rfl (M1 := [(zh, 159, 46, ca 1, gh_37), (zp, 162, 368, ca 1, gp_37), (zv, 158, 46, ca 1, fv), (zs, 150, 120000, ca 1, C.s), (zn, 151, 120000, ca 1, C.n), (za, 152, 120000, ca 1, C.a), (zb, 153, 120000, ca 1, C.b), (zc, 154, 120000, ca 1, C.c), (zy, 165, 16, ca 1, C.y)]) [0, 1, 3, 4, 5, 6, 7, 8, 9] rfl rfl rfl hg_zg (x := 0) ((by decide)) (by omega) (by first | omega | (refine ⟨?_, ?_⟩ <;> (first | omega | rfl | assumption | decide | exact Or.inl rfl | exact Or.inr rfl | (simp only; omega)))) dX13_intro_55 (fun H_40 locs_40 fs_41 hv_40 ho_40 hh_40 => ?_)
        have hv_40 : jSo fs_41 (0) = z_39.toInt := by unfold jSo; rw [hv_40]; try exact rfl
        clear hh_37
        refine lv_goto (tgt := 157) hx hb dX13_intro_56 (by decide) ?_
        rw [hQ]
        exact W.vret hx hb hr (fun t ht hW => ⟨⟨(pn, pu, fs_41, gh_37, gp_37, C), rfl, by
    try dsimp only
    refine ⟨by omega, by omega, by omega, by omega, jAgK.rf _ _, ?_⟩
    exact ((hp0.add hr_38 (by rw [hqz_36]; exact k2.1) (by omega) (by omega) (by omega) (by omega) (by omega)).set (jUpd.mk (n := 46) hv_40 ho_40 rfl (by omega)) (by rw [hqz_39]; exact k2.2.1) (by omega)), ⟨hh_40.rt (M1 := [(r0, 15, 5, .int pn), (r0, 15, 34, .int pu)]) [1, 2] rfl ht, by rw [ht]; exact hh_40.2.2.2.2.2.2.2.1.sub [0, 1, 2, 4, 5, 6, 7, 8, 9] rfl⟩⟩, by rw [ht]; try exact hh_40.1.1, fun q h9 hq => by rw [ht]; try exact hh_40.1.2.1 q h9 hq⟩) hh_40.1.2.2 dX13_intro_157
      · skip
        have c_32' : pu.toInt > 0 := jb_le_n (rfl) ((by decide)) c_32
        rw [hQ]
        exact W.vret hx hb hr (fun t ht hW => ⟨⟨(pn, pu, fg, fh, fp, C), rfl, by (try dsimp only); exact ⟨by omega, by omega, by omega, by omega, jAgK.rf _ _, hp0⟩, ⟨hh.rt (M1 := [(r0, 15, 5, .int pn), (r0, 15, 34, .int pu)]) [0, 1] rfl ht, by rw [ht]; exact hh.2.2.2.2.2.2.2.1.sub [0, 1, 2, 4, 5, 6, 7, 8, 9] rfl⟩⟩, by rw [ht]; try exact hh.1.1, fun q h9 hq => by rw [ht]; try exact hh.1.2.1 q h9 hq⟩) hh.1.2.2 dX13_intro_28
    · skip
      have c_31' : z_30.toInt = 8 := jb_ne_n (rfl) ((by decide)) c_31
      refine lv_aload_n hx hb dX13_intro_15 rfl (lv_at hl 0 rfl) ?_
      refine lv_bipush (v := 9) hx hb dX13_intro_16 (by decide) ?_
      refine va_callv (A0 := jA base) (H0 := s.heap) (va_runV (As := [.int 9]) (rest := []) ⟨hx, hb, hml, hown, hts⟩ (uX13_failsK l dC dI ca base B hB hAp hB15 G0 s.heap r0 9 pu) (cwV 1 hts (jgV (jWr_64 _ (List.mem_of_getElem? (i := 19) rfl)) (jWr_64 _ (List.mem_of_getElem? (i := 20) rfl)) (jWr_64 _ (List.mem_of_getElem? (i := 21) rfl)) (jWr_12 _ (List.mem_of_getElem? (i := 12) rfl)) (jWr_64 _ (List.mem_of_getElem? (i := 22) rfl))) rfl rfl rfl (by decide +kernel) ⟨by rw [← hR]; exact Nat.le_of_ble_eq_true rfl, by rw [← hR]; exact Nat.le_of_ble_eq_true rfl⟩) ⟨fun a U g mk q => by obtain ⟨q0, q1, q2, qK, q10, q11, q12⟩ := q; exact ⟨q0, q1, q2, jG.calling g mk a qK, q10, q11, q12⟩, hh.recv (C := RX13) (T := TX13) (N := 50) hB15 rfl (by decide) hg_r0 hK, fun U hU hW => ⟨rfl, hU, hh.2.1, hG.step hW hU hh.1, hg_r0, (hh.2.2.1.sub (L1 := [(r0, 15, 34, .int pu)]) [1] rfl), by first | omega | (refine ⟨?_, ?_, ?_, ?_⟩ <;> (first | omega | rfl | assumption | decide | exact Or.inl rfl | exact Or.inr rfl | (simp only; omega)))⟩⟩ rfl rfl hl.1 rfl (lv_room (Nat.le_of_ble_eq_true rfl)) dX13_intro_18 ⟨Nat.zero_le _, Nat.zero_le _⟩) hh.1 (fun q _ h => h) (fun q h => h) (fun u_42 t_42 H_42 locs_42 ht_42 hvm_42 hr_43 hb_42 hz_42 hk_42 hS_42 => ?_)
      obtain ⟨qu_42, rfl⟩ : ∃ z, z = u_42 := ⟨_, rfl⟩
      rw [ht_42] at hb_42
      obtain ⟨hb_421, hb_422, hb_423, hb_424, hb_425⟩ := hb_42
      have hh_42 : jSt (dC, dI) B base G0 G0 EX13_intro s.heap 0 0 [(r0, 15, 34, .int qu_42), (r0, 15, 5, .int pn), (r0, 15, 11, .int py), (r0, 15, 21, .int pg), (r0, 15, 22, .ref zg), (r0, 15, 25, .ref zh), (r0, 15, 27, .ref zp), (r0, 15, 23, .ref zv), (r0, 15, 0, .ref zs), (r0, 15, 1, .ref zn), (r0, 15, 2, .ref za), (r0, 15, 3, .ref zb), (r0, 15, 4, .ref zc), (r0, 15, 14, .ref zy)] [(zg, 161, 46, ca 1, fg), (zh, 159, 46, ca 1, fh), (zp, 162, 368, ca 1, fp), (zv, 158, 46, ca 1, fv), (zs, 150, 120000, ca 1, C.s), (zn, 151, 120000, ca 1, C.n), (za, 152, 120000, ca 1, C.a), (zb, 153, 120000, ca 1, C.b), (zc, 154, 120000, ca 1, C.c), (zy, 165, 16, ca 1, C.y)] [] H_42 locs_42 := ((hh.call hb_421 hb_422 hb_423 hb_424 hS_42 rfl (L1 := [(r0, 15, 5, .int pn), (r0, 15, 11, .int py), (r0, 15, 21, .int pg), (r0, 15, 22, .ref zg), (r0, 15, 25, .ref zh), (r0, 15, 27, .ref zp), (r0, 15, 23, .ref zv), (r0, 15, 0, .ref zs), (r0, 15, 1, .ref zn), (r0, 15, 2, .ref za), (r0, 15, 3, .ref zb), (r0, 15, 4, .ref zc), (r0, 15, 14, .ref zy)]) [0, 2, 3, 4, 5, 6, 7, 8, 9, 10, 11, 12, 13] rfl rfl (M1 := [(zg, 161, 46, ca 1, fg), (zh, 159, 46, ca 1, fh), (zp, 162, 368, ca 1, fp), (zv, 158, 46, ca 1, fv), (zs, 150, 120000, ca 1, C.s), (zn, 151, 120000, ca 1, C.n), (za, 152, 120000, ca 1, C.a), (zb, 153, 120000, ca 1, C.b), (zc, 154, 120000, ca 1, C.c), (zy, 165, 16, ca 1, C.y)]) [0, 1, 2, 3, 4, 5, 6, 7, 8, 9] rfl rfl (I1 := []) [] rfl rfl).more hb_425)
      clear hh ht_42 hvm_42 hz_42 hk_42 hS_42 hb_421 hb_422 hb_423 hb_424 hb_425
      obtain ⟨hr_43_0, hr_43_1, hr_43_2, hr_43_3⟩ := hr_43
      refine lv_aload_n hx hb dX13_intro_21 rfl (lv_at hl 0 rfl) ?_
      refine j7_read hx hb hown hK (C := RX13) (T := TX13) (N := 50) rfl hly_15_34 hlk_221 (hh_42.at 0 rfl) dX13_intro_22 ?_
      refine lv_if_le (tgt := 29) hx hb dX13_intro_25 (by decide) (fun c_44 => ?_) (fun c_44 => ?_)
      · skip
        have c_44' : qu_42.toInt ≤ 0 := jb_le (rfl) ((by decide)) c_44
        exact (by omega : False).elim
      · skip
        have c_44' : qu_42.toInt > 0 := jb_le_n (rfl) ((by decide)) c_44
        rw [hQ]
        exact W.vret hx hb hr (fun t ht hW => ⟨⟨(pn, qu_42, fg, fh, fp, C), rfl, by (try dsimp only); exact ⟨by omega, by omega, by omega, by omega, jAgK.rf _ _, hp0⟩, ⟨hh_42.rt (M1 := [(r0, 15, 5, .int pn), (r0, 15, 34, .int qu_42)]) [1, 0] rfl ht, by rw [ht]; exact hh_42.2.2.2.2.2.2.2.1.sub [0, 1, 2, 4, 5, 6, 7, 8, 9] rfl⟩⟩, by rw [ht]; try exact hh_42.1.1, fun q h9 hq => by rw [ht]; try exact hh_42.1.2.1 q h9 hq⟩) hh_42.1.2.2 dX13_intro_28
set_option maxHeartbeats 4000000 in
set_option maxRecDepth 20000 in
theorem uX13_rewrite (l : Launch) (dC : Nat → ClassId) (dI : Nat → Nat → Nat) (ca : Nat → ClassId) (base : Nat) (B : jF) (hB : jBok B) (hAp : jAp (dC, dI)) (hB15 : ∀ n G a H, B 15 n G a H ↔ jOb (dC, dI) 15 50 (F15 n G) a H) (hB150 : ∀ n G a H, B 150 n G a H ↔ jAr (dC, dI) (ca 1) (fun j z => True) n a H) (hB151 : ∀ n G a H, B 151 n G a H ↔ jAr (dC, dI) (ca 1) (fun j z => True) n a H) (hB152 : ∀ n G a H, B 152 n G a H ↔ jAr (dC, dI) (ca 1) (fun j z => True) n a H) (hB153 : ∀ n G a H, B 153 n G a H ↔ jAr (dC, dI) (ca 1) (fun j z => True) n a H) (hB154 : ∀ n G a H, B 154 n G a H ↔ jAr (dC, dI) (ca 1) (fun j z => True) n a H) (hB161 : ∀ n G a H, B 161 n G a H ↔ jAr (dC, dI) (ca 1) (fun j z => 0 ≤ z.toInt ∧ z.toInt ≤ 119999) n a H) (hB165 : ∀ n G a H, B 165 n G a H ↔ jAr (dC, dI) (ca 1) (fun j z => 0 ≤ z.toInt ∧ z.toInt ≤ 3) n a H) (G0 : jT) (H0 : Heap) (r0 : Nat) (a1 : Int32) (a2 : Int32) (pn : Int32) (pu : Int32) (py : Int32) (pg : Int32) (zg : Nat) (zh : Nat) (zp : Nat) (zs : Nat) (zn : Nat) (za : Nat) (zb : Nat) (zc : Nat) (zy : Nat) (fg : Nat → Int32) (fh : Nat → Int32) (fp : Nat → Int32) (C : jK) : Met l yX13_rewrite (jw yX13_rewrite cX13_rewrite 4 none) ({ frames := 1604, cells := 0, slots := 0, locals := 65223 }) (va_Pc [.ref r0, .int a1, .int a2] (fun U => U.heap = H0 ∧ jX B base G0 [] H0 ∧ jG dC dI ca base U ∧ G0 r0 = some (15, 0) ∧ G0 zg = some (161, 46) ∧ G0 zh = some (159, 46) ∧ G0 zp = some (162, 368) ∧ G0 zs = some (150, 120000) ∧ G0 zn = some (151, 120000) ∧ G0 za = some (152, 120000) ∧ G0 zb = some (153, 120000) ∧ G0 zc = some (154, 120000) ∧ G0 zy = some (165, 16) ∧ jP (dC, dI) G0 H0 [(r0, 15, 5, .int pn), (r0, 15, 34, .int pu), (r0, 15, 11, .int py), (r0, 15, 21, .int pg), (r0, 15, 22, .ref zg), (r0, 15, 25, .ref zh), (r0, 15, 27, .ref zp), (r0, 15, 0, .ref zs), (r0, 15, 1, .ref zn), (r0, 15, 2, .ref za), (r0, 15, 3, .ref zb), (r0, 15, 4, .ref zc), (r0, 15, 14, .ref zy)] ∧ jMc (dC, dI) G0 H0 [(zg, 161, 46, ca 1, fg), (zh, 159, 46, ca 1, fh), (zp, 162, 368, ca 1, fp), (zs, 150, 120000, ca 1, C.s), (zn, 151, 120000, ca 1, C.n), (za, 152, 120000, ca 1, C.a), (zb, 153, 120000, ca 1, C.b), (zc, 154, 120000, ca 1, C.c), (zy, 165, 16, ca 1, C.y)] ∧ jGl (jG1 C pn.toInt py.toInt) fg fh fp pg.toInt ∧ 1 ≤ pg.toInt ∧ pg.toInt ≤ 6 ∧ pu.toInt = 0 ∧ 0 ≤ pn.toInt ∧ pn.toInt ≤ 119000 ∧ 0 ≤ py.toInt ∧ py.toInt ≤ 16 ∧ a2.toInt = jSo fg 0 ∧ jG1 C pn.toInt py.toInt a1.toInt)) (va_Qv (S := Int32 × Int32 × (Nat → Int32) × jK) (fun u => pn.toInt ≤ u.1.toInt ∧ u.1.toInt ≤ pn.toInt + 90 ∧ 0 ≤ u.2.1.toInt ∧ u.2.1.toInt ≤ 9 ∧ jAgK C u.2.2.2 pn.toInt ∧ jGl (jG1 u.2.2.2 u.1.toInt py.toInt) u.2.2.1 fh fp pg.toInt) (fun u t => jRt (dC, dI) B base G0 EX13_rewrite H0 [(r0, 15, 5, .int u.1), (r0, 15, 34, .int u.2.1)] t.heap ∧ jMc (dC, dI) G0 t.heap [(zg, 161, 46, ca 1, u.2.2.1), (zs, 150, 120000, ca 1, u.2.2.2.s), (zn, 151, 120000, ca 1, u.2.2.2.n), (za, 152, 120000, ca 1, u.2.2.2.a), (zb, 153, 120000, ca 1, u.2.2.2.b), (zc, 154, 120000, ca 1, u.2.2.2.c), (zy, 165, 16, ca 1, u.2.2.2.y)]) (jA base)) 0 0 (jA base) := by
  refine Met.ofW (cc := cX13_rewrite) (maxL := 4) (ret := none) (by decide) rfl ?_
  intro p e s m args below meth c s₁ Bd hml hv
  obtain ⟨rfl, hH0, hX, hG, hg_r0, hg_zg, hg_zh, hg_zp, hg_zs, hg_zn, hg_za, hg_zb, hg_zc, hg_zy, hP0, hM0, hp0, hp1, hp2, hp3, hp4, hp5, hp6, hp7, hp8, hp9⟩ := hv
  have hK := hG.1
  have hx := Bd.exec
  have hb := Bd.bytes
  have hr := Bd.returns
  have hts := atoms_spec (ws := (jw yX13_rewrite cX13_rewrite 4 none)) Bd.pre
  have htw : ∀ w ∈ jWl, w.before _ s = true := fun w h => hts w (List.mem_cons_of_mem _ h)
  have hown : s.vm.findClass RX13 = some m.cls := findClass_of_methodNamed Bd.named
  have hlocks := Bd.notSynchronized
  obtain ⟨Q, hQ⟩ : ∃ Q, Q = MQ below (va_Qv (S := Int32 × Int32 × (Nat → Int32) × jK) (fun u => pn.toInt ≤ u.1.toInt ∧ u.1.toInt ≤ pn.toInt + 90 ∧ 0 ≤ u.2.1.toInt ∧ u.2.1.toInt ≤ 9 ∧ jAgK C u.2.2.2 pn.toInt ∧ jGl (jG1 u.2.2.2 u.1.toInt py.toInt) u.2.2.1 fh fp pg.toInt) (fun u t => jRt (dC, dI) B base G0 EX13_rewrite H0 [(r0, 15, 5, .int u.1), (r0, 15, 34, .int u.2.1)] t.heap ∧ jMc (dC, dI) G0 t.heap [(zg, 161, 46, ca 1, u.2.2.1), (zs, 150, 120000, ca 1, u.2.2.2.s), (zn, 151, 120000, ca 1, u.2.2.2.n), (za, 152, 120000, ca 1, u.2.2.2.a), (zb, 153, 120000, ca 1, u.2.2.2.b), (zc, 154, 120000, ca 1, u.2.2.2.c), (zy, 165, 16, ca 1, u.2.2.2.y)]) (jA base)) ([.ref r0, .int a1, .int a2] : List Value).toArray s 0 0 (jA base) := ⟨_, rfl⟩
  rw [← hQ]
  have hl := lv_entry ([.ref r0, .int a1, .int a2]) (n := 4) (Nat.le_of_ble_eq_true rfl)
  rw [lg_entry_eq]
  generalize (lg_sl ([.ref r0, .int a1, .int a2]) ++ List.replicate (4 - (lg_sl ([.ref r0, .int a1, .int a2])).length) Slot.unset).toArray = ls at hl ⊢
  have hl : lv_has ls 4 [(0, .ref r0), (1, .int a1), (2, .int a2)] := hl
  generalize hR : (headSpec (jw yX13_rewrite cX13_rewrite 4 none) ({ frames := 1604, cells := 0, slots := 0, locals := 65223 })).room = R
  subst hH0
  have hh : jSt (dC, dI) B base G0 G0 EX13_rewrite s.heap 0 0 [(r0, 15, 5, .int pn), (r0, 15, 34, .int pu), (r0, 15, 11, .int py), (r0, 15, 21, .int pg), (r0, 15, 22, .ref zg), (r0, 15, 25, .ref zh), (r0, 15, 27, .ref zp), (r0, 15, 0, .ref zs), (r0, 15, 1, .ref zn), (r0, 15, 2, .ref za), (r0, 15, 3, .ref zb), (r0, 15, 4, .ref zc), (r0, 15, 14, .ref zy)] [(zg, 161, 46, ca 1, fg), (zh, 159, 46, ca 1, fh), (zp, 162, 368, ca 1, fp), (zs, 150, 120000, ca 1, C.s), (zn, 151, 120000, ca 1, C.n), (za, 152, 120000, ca 1, C.a), (zb, 153, 120000, ca 1, C.b), (zc, 154, 120000, ca 1, C.c), (zy, 165, 16, ca 1, C.y)] [] s.heap [] := jSt.start hX hP0 hM0 jIs.nil
  clear hX hP0
  have hk0 : (0 : Int32).toInt = 0 := by decide
  have hk1 : (1 : Int32).toInt = 1 := by decide
  have hk6 : (6 : Int32).toInt = 6 := by decide
  have hk8 : (8 : Int32).toInt = 8 := by decide
  have hk9 : (9 : Int32).toInt = 9 := by decide
  have hk80 : (80 : Int32).toInt = 80 := by decide
  have hly_15_0 := htw (u_lay RX13 TX13 0) (jWc_wsX130 _ (u_in_lay (by decide)))
  have hly_15_2 := htw (u_lay RX13 TX13 2) (jWc_wsX130 _ (u_in_lay (by decide)))
  have hly_15_3 := htw (u_lay RX13 TX13 3) (jWc_wsX130 _ (u_in_lay (by decide)))
  have hly_15_22 := htw (u_lay RX13 TX13 22) (jWc_wsX130 _ (u_in_lay (by decide)))
  have hly_15_34 := htw (u_lay RX13 TX13 34) (jWc_wsX130 _ (u_in_lay (by decide)))
  have hlk_12 := (htw (.fieldLink RX13 12 "ProofServerModel$Kernel" "sort" "[I") (jWr_14 _ (List.mem_of_getElem? (i := 9) rfl)))
  have hlk_19 := (htw (.fieldLink RX13 19 "ProofServerModel$Kernel" "one" "[I") (jWr_14 _ (List.mem_of_getElem? (i := 11) rfl)))
  have hlk_22 := (htw (.fieldLink RX13 22 "ProofServerModel$Kernel" "two" "[I") (jWr_14 _ (List.mem_of_getElem? (i := 12) rfl)))
  have hlk_221 := (htw (.fieldLink RX13 221 "ProofServerModel$Kernel" "fault" "I") (jWr_60 _ (List.mem_of_getElem? (i := 3) rfl)))
  have hlk_53 := (htw (.fieldLink RX13 53 "ProofServerModel$Kernel" "goal" "[I") (jWr_14 _ (List.mem_of_getElem? (i := 22) rfl)))
  have hrg_a1 := jb_rng a1
  have hrg_a2 := jb_rng a2
  have hg0 : jG1 C pn.toInt py.toInt a2.toInt := by rw [hp8]; exact (hp0 0 (by omega) (by omega)).1
  have hr0 := hg0.rng
  have hr1 := hp9.rng
  have hz0 := hg0.2
  refine lv_aload_n hx hb dX13_rewrite_0 rfl (lv_at hl 0 rfl) ?_
  refine j7_read hx hb hown hK (C := RX13) (T := TX13) (N := 50) rfl hly_15_0 hlk_12 (hh.at 7 rfl) dX13_rewrite_1 ?_
  refine lv_iload_n hx hb dX13_rewrite_4 rfl (lv_at hl 1 rfl) ?_
  refine j7_ialdM hx hb hK hh hB150 1 rfl (by decide) hg_zs (x := a1.toInt) (rfl) (by omega) (j := 3) rfl dX13_rewrite_5 (fun z_1 ez_1 (hz_1 : True) => ?_)
  have hqz_1 : z_1.toInt = jSo C.s (a1.toInt) := by unfold jSo; rw [ez_1]
  refine lv_bipush (v := 6) hx hb dX13_rewrite_6 (by decide) ?_
  refine lv_icmp_eq (tgt := 18) hx hb dX13_rewrite_8 (by decide) (fun c_2 => ?_) (fun c_2 => ?_)
  · skip
    have c_2' : z_1.toInt = 6 := jb_eq (rfl) ((by decide)) c_2
    have k2 := hp9.sub2 (by omega)
    have ka := k2.1.rng
    have kb := k2.2.1.rng
    have ya := k2.1.2
    have yb := k2.2.1.2
    have na := jsz_nn C (jSo C.a a1.toInt)
    have nb := jsz_nn C (jSo C.b a1.toInt)
    have ng := jsz_nn C a2.toInt
    refine lv_aload_n hx hb dX13_rewrite_18 rfl (lv_at hl 0 rfl) ?_
    refine lv_iload_n hx hb dX13_rewrite_19 rfl (lv_at hl 2 rfl) ?_
    refine lv_aload_n hx hb dX13_rewrite_20 rfl (lv_at hl 0 rfl) ?_
    refine j7_read hx hb hown hK (C := RX13) (T := TX13) (N := 50) rfl hly_15_2 hlk_19 (hh.at 9 rfl) dX13_rewrite_21 ?_
    refine lv_iload_n hx hb dX13_rewrite_24 rfl (lv_at hl 1 rfl) ?_
    refine j7_ialdM hx hb hK hh hB152 1 rfl (by decide) hg_za (x := a1.toInt) (rfl) (by omega) (j := 5) rfl dX13_rewrite_25 (fun z_3 ez_3 (hz_3 : True) => ?_)
    have hqz_3 : z_3.toInt = jSo C.a (a1.toInt) := by unfold jSo; rw [ez_3]
    refine va_calli (A0 := jA base) (H0 := s.heap) (va_runV (As := [.int a2, .int z_3]) (rest := []) ⟨hx, hb, hml, hown, hts⟩ (aX13_countOf l dC dI ca base B hB hAp hB15 hB150 hB151 hB152 hB153 hB154 hB165 80 G0 s.heap r0 a2 z_3 zs zn za zb zc zy C) (cwV 2 hts (jgV (jWr_69 _ (List.mem_of_getElem? (i := 3) rfl)) (jWr_69 _ (List.mem_of_getElem? (i := 4) rfl)) (jWr_69 _ (List.mem_of_getElem? (i := 5) rfl)) (jWr_12 _ (List.mem_of_getElem? (i := 12) rfl)) (jWr_69 _ (List.mem_of_getElem? (i := 6) rfl))) rfl rfl rfl (by decide +kernel) ⟨by rw [← hR]; exact Nat.le_of_ble_eq_true rfl, by rw [← hR]; exact Nat.le_of_ble_eq_true rfl⟩) ⟨fun a U g mk q => by obtain ⟨q0, q1, q2, qK, q10, q11, q12, q13, q14, q15, q16, q17, q18, q19⟩ := q; exact ⟨q0, q1, q2, jG.calling g mk a qK, q10, q11, q12, q13, q14, q15, q16, q17, q18, q19⟩, hh.recv (C := RX13) (T := TX13) (N := 50) hB15 rfl (by decide) hg_r0 hK, fun U hU hW => ⟨rfl, hU, hh.2.1, hG.step hW hU hh.1, hg_r0, hg_zs, hg_zn, hg_za, hg_zb, hg_zc, hg_zy, (hh.2.2.1.sub (L1 := [(r0, 15, 0, .ref zs), (r0, 15, 1, .ref zn), (r0, 15, 2, .ref za), (r0, 15, 3, .ref zb), (r0, 15, 4, .ref zc), (r0, 15, 14, .ref zy)]) [7, 8, 9, 10, 11, 12] rfl), (hh.2.2.2.2.2.2.2.1.sub (L1 := [(zs, 150, 120000, ca 1, C.s), (zn, 151, 120000, ca 1, C.n), (za, 152, 120000, ca 1, C.a), (zb, 153, 120000, ca 1, C.b), (zc, 154, 120000, ca 1, C.c), (zy, 165, 16, ca 1, C.y)]) [3, 4, 5, 6, 7, 8] rfl), ⟨(by first | assumption | exact (hg0.1.tr (by omega) (by omega)) | (rw [hqz_3]; exact (k2.1.1.tr (by omega) (by omega))) | omega), (by first | omega | rfl | assumption | exact (hg0.1.tr (by omega) (by omega)) | (rw [hqz_3]; exact (k2.1.1.tr (by omega) (by omega)))), (by first | assumption | exact (hg0.1.tr (by omega) (by omega)) | (rw [hqz_3]; exact (k2.1.1.tr (by omega) (by omega))) | omega), (by first | omega | rfl | assumption | exact (hg0.1.tr (by omega) (by omega)) | (rw [hqz_3]; exact (k2.1.1.tr (by omega) (by omega))))⟩⟩⟩ rfl rfl hl.1 rfl (lv_room (Nat.le_of_ble_eq_true rfl)) dX13_rewrite_26 ⟨Nat.zero_le _, Nat.zero_le _⟩) hh.1 (fun q _ h => h) (fun q h => h) (fun r_5 u_4 t_4 H_4 locs_4 ht_4 hvm_4 hr_5 hb_4 hz_4 hk_4 hS_4 => ?_)
    rw [ht_4] at hb_4
    obtain ⟨hb_41, hb_42, hb_43, hb_44, hb_45⟩ := hb_4
    have hh_4 : jSt (dC, dI) B base G0 G0 EX13_rewrite s.heap 0 0 [(r0, 15, 5, .int pn), (r0, 15, 34, .int pu), (r0, 15, 11, .int py), (r0, 15, 21, .int pg), (r0, 15, 22, .ref zg), (r0, 15, 25, .ref zh), (r0, 15, 27, .ref zp), (r0, 15, 0, .ref zs), (r0, 15, 1, .ref zn), (r0, 15, 2, .ref za), (r0, 15, 3, .ref zb), (r0, 15, 4, .ref zc), (r0, 15, 14, .ref zy)] [(zg, 161, 46, ca 1, fg), (zh, 159, 46, ca 1, fh), (zp, 162, 368, ca 1, fp), (zs, 150, 120000, ca 1, C.s), (zn, 151, 120000, ca 1, C.n), (za, 152, 120000, ca 1, C.a), (zb, 153, 120000, ca 1, C.b), (zc, 154, 120000, ca 1, C.c), (zy, 165, 16, ca 1, C.y)] [] H_4 locs_4 := ((hh.call hb_41 hb_42 hb_43 hb_44 hS_4 rfl (L1 := [(r0, 15, 5, .int pn), (r0, 15, 34, .int pu), (r0, 15, 11, .int py), (r0, 15, 21, .int pg), (r0, 15, 22, .ref zg), (r0, 15, 25, .ref zh), (r0, 15, 27, .ref zp), (r0, 15, 0, .ref zs), (r0, 15, 1, .ref zn), (r0, 15, 2, .ref za), (r0, 15, 3, .ref zb), (r0, 15, 4, .ref zc), (r0, 15, 14, .ref zy)]) [0, 1, 2, 3, 4, 5, 6, 7, 8, 9, 10, 11, 12] rfl rfl (M1 := [(zg, 161, 46, ca 1, fg), (zh, 159, 46, ca 1, fh), (zp, 162, 368, ca 1, fp), (zs, 150, 120000, ca 1, C.s), (zn, 151, 120000, ca 1, C.n), (za, 152, 120000, ca 1, C.a), (zb, 153, 120000, ca 1, C.b), (zc, 154, 120000, ca 1, C.c), (zy, 165, 16, ca 1, C.y)]) [0, 1, 2, 3, 4, 5, 6, 7, 8] rfl rfl (I1 := []) [] rfl rfl).more hb_45)
    clear hh ht_4 hvm_4 hz_4 hk_4 hS_4 hb_41 hb_42 hb_43 hb_44 hb_45
    rw [hqz_3] at hr_5
    have hcn := jCn_nn C (jSo C.a a1.toInt) a2.toInt
    have hcl := jCn_le (t := jSo C.a a1.toInt) (by omega) hg0.1
    refine lv_istore_n (lv' := [(3, .int r_5), (0, .ref r0), (1, .int a1), (2, .int a2)]) hx hb dX13_rewrite_29 rfl hl (by decide) rfl (fun ls hl => ?_)
    refine lv_iload_n hx hb dX13_rewrite_30 rfl (lv_at hl 0 rfl) ?_
    refine lv_if_ne (tgt := 40) hx hb dX13_rewrite_31 (by decide) (fun c_6 => ?_) (fun c_6 => ?_)
    · skip
      have c_6' : r_5.toInt ≠ 0 := jb_ne (rfl) ((by decide)) c_6
      refine lv_aload_n hx hb dX13_rewrite_40 rfl (lv_at hl 1 rfl) ?_
      refine lv_iload_n hx hb dX13_rewrite_41 rfl (lv_at hl 3 rfl) ?_
      refine va_calli (A0 := jA base) (H0 := s.heap) (va_runV (As := [.int a2]) (rest := []) ⟨hx, hb, hml, hown, hts⟩ (aX13_size l dC dI ca base B hB hAp hB15 hB150 hB151 hB152 hB153 hB154 hB165 1600 G0 H_4 r0 a2 zs zn za zb zc zy C) (cwV 1 hts (jgV (jWr_65 _ (List.mem_of_getElem? (i := 11) rfl)) (jWr_65 _ (List.mem_of_getElem? (i := 12) rfl)) (jWr_65 _ (List.mem_of_getElem? (i := 13) rfl)) (jWr_12 _ (List.mem_of_getElem? (i := 12) rfl)) (jWr_65 _ (List.mem_of_getElem? (i := 14) rfl))) rfl rfl rfl (by decide +kernel) ⟨by rw [← hR]; exact Nat.le_of_ble_eq_true rfl, by rw [← hR]; exact Nat.le_of_ble_eq_true rfl⟩) ⟨fun a U g mk q => by obtain ⟨q0, q1, q2, qK, q10, q11, q12, q13, q14, q15, q16, q17, q18, q19⟩ := q; exact ⟨q0, q1, q2, jG.calling g mk a qK, q10, q11, q12, q13, q14, q15, q16, q17, q18, q19⟩, hh_4.recv (C := RX13) (T := TX13) (N := 50) hB15 rfl (by decide) hg_r0 hK, fun U hU hW => ⟨rfl, hU, hh_4.2.1, hG.step hW hU hh_4.1, hg_r0, hg_zs, hg_zn, hg_za, hg_zb, hg_zc, hg_zy, (hh_4.2.2.1.sub (L1 := [(r0, 15, 0, .ref zs), (r0, 15, 1, .ref zn), (r0, 15, 2, .ref za), (r0, 15, 3, .ref zb), (r0, 15, 4, .ref zc), (r0, 15, 14, .ref zy)]) [7, 8, 9, 10, 11, 12] rfl), (hh_4.2.2.2.2.2.2.2.1.sub (L1 := [(zs, 150, 120000, ca 1, C.s), (zn, 151, 120000, ca 1, C.n), (za, 152, 120000, ca 1, C.a), (zb, 153, 120000, ca 1, C.b), (zc, 154, 120000, ca 1, C.c), (zy, 165, 16, ca 1, C.y)]) [3, 4, 5, 6, 7, 8] rfl), ⟨(by first | assumption | exact ((hg0.1.mono (d1 := 1600) (by omega) (Int.le_refl _)).tr (by omega) (by omega)) | omega), (by first | omega | rfl | assumption | exact ((hg0.1.mono (d1 := 1600) (by omega) (Int.le_refl _)).tr (by omega) (by omega))), (by first | omega | rfl | assumption | exact ((hg0.1.mono (d1 := 1600) (by omega) (Int.le_refl _)).tr (by omega) (by omega)))⟩⟩⟩ rfl rfl hl.1 rfl (lv_room (Nat.le_of_ble_eq_true rfl)) dX13_rewrite_42 ⟨Nat.zero_le _, Nat.zero_le _⟩) hh_4.1 (fun q _ h => h) (fun q h => h) (fun r_8 u_7 t_7 H_7 locs_7 ht_7 hvm_7 hr_8 hb_7 hz_7 hk_7 hS_7 => ?_)
      rw [ht_7] at hb_7
      obtain ⟨hb_71, hb_72, hb_73, hb_74, hb_75⟩ := hb_7
      have hh_7 : jSt (dC, dI) B base G0 G0 EX13_rewrite s.heap 0 0 [(r0, 15, 5, .int pn), (r0, 15, 34, .int pu), (r0, 15, 11, .int py), (r0, 15, 21, .int pg), (r0, 15, 22, .ref zg), (r0, 15, 25, .ref zh), (r0, 15, 27, .ref zp), (r0, 15, 0, .ref zs), (r0, 15, 1, .ref zn), (r0, 15, 2, .ref za), (r0, 15, 3, .ref zb), (r0, 15, 4, .ref zc), (r0, 15, 14, .ref zy)] [(zg, 161, 46, ca 1, fg), (zh, 159, 46, ca 1, fh), (zp, 162, 368, ca 1, fp), (zs, 150, 120000, ca 1, C.s), (zn, 151, 120000, ca 1, C.n), (za, 152, 120000, ca 1, C.a), (zb, 153, 120000, ca 1, C.b), (zc, 154, 120000, ca 1, C.c), (zy, 165, 16, ca 1, C.y)] [] H_7 locs_7 := ((hh_4.call hb_71 hb_72 hb_73 hb_74 hS_7 rfl (L1 := [(r0, 15, 5, .int pn), (r0, 15, 34, .int pu), (r0, 15, 11, .int py), (r0, 15, 21, .int pg), (r0, 15, 22, .ref zg), (r0, 15, 25, .ref zh), (r0, 15, 27, .ref zp), (r0, 15, 0, .ref zs), (r0, 15, 1, .ref zn), (r0, 15, 2, .ref za), (r0, 15, 3, .ref zb), (r0, 15, 4, .ref zc), (r0, 15, 14, .ref zy)]) [0, 1, 2, 3, 4, 5, 6, 7, 8, 9, 10, 11, 12] rfl rfl (M1 := [(zg, 161, 46, ca 1, fg), (zh, 159, 46, ca 1, fh), (zp, 162, 368, ca 1, fp), (zs, 150, 120000, ca 1, C.s), (zn, 151, 120000, ca 1, C.n), (za, 152, 120000, ca 1, C.a), (zb, 153, 120000, ca 1, C.b), (zc, 154, 120000, ca 1, C.c), (zy, 165, 16, ca 1, C.y)]) [0, 1, 2, 3, 4, 5, 6, 7, 8] rfl rfl (I1 := []) [] rfl rfl).more hb_75)
      clear hh_4 ht_7 hvm_7 hz_7 hk_7 hS_7 hb_71 hb_72 hb_73 hb_74 hb_75
      refine lv_iload_n hx hb dX13_rewrite_45 rfl (lv_at hl 0 rfl) ?_
      refine lv_aload_n hx hb dX13_rewrite_46 rfl (lv_at hl 1 rfl) ?_
      refine lv_aload_n hx hb dX13_rewrite_47 rfl (lv_at hl 1 rfl) ?_
      refine j7_read hx hb hown hK (C := RX13) (T := TX13) (N := 50) rfl hly_15_3 hlk_22 (hh_7.at 10 rfl) dX13_rewrite_48 ?_
      refine lv_iload_n hx hb dX13_rewrite_51 rfl (lv_at hl 2 rfl) ?_
      refine j7_ialdM hx hb hK hh_7 hB153 1 rfl (by decide) hg_zb (x := a1.toInt) (rfl) (by omega) (j := 6) rfl dX13_rewrite_52 (fun z_9 ez_9 (hz_9 : True) => ?_)
      have hqz_9 : z_9.toInt = jSo C.b (a1.toInt) := by unfold jSo; rw [ez_9]
      refine va_calli (A0 := jA base) (H0 := s.heap) (va_runV (As := [.int z_9]) (rest := [.int r_5, .int r_8]) ⟨hx, hb, hml, hown, hts⟩ (aX13_size l dC dI ca base B hB hAp hB15 hB150 hB151 hB152 hB153 hB154 hB165 1600 G0 H_7 r0 z_9 zs zn za zb zc zy C) (cwV 1 hts (jgV (jWr_65 _ (List.mem_of_getElem? (i := 11) rfl)) (jWr_65 _ (List.mem_of_getElem? (i := 12) rfl)) (jWr_65 _ (List.mem_of_getElem? (i := 13) rfl)) (jWr_12 _ (List.mem_of_getElem? (i := 12) rfl)) (jWr_65 _ (List.mem_of_getElem? (i := 14) rfl))) rfl rfl rfl (by decide +kernel) ⟨by rw [← hR]; exact Nat.le_of_ble_eq_true rfl, by rw [← hR]; exact Nat.le_of_ble_eq_true rfl⟩) ⟨fun a U g mk q => by obtain ⟨q0, q1, q2, qK, q10, q11, q12, q13, q14, q15, q16, q17, q18, q19⟩ := q; exact ⟨q0, q1, q2, jG.calling g mk a qK, q10, q11, q12, q13, q14, q15, q16, q17, q18, q19⟩, hh_7.recv (C := RX13) (T := TX13) (N := 50) hB15 rfl (by decide) hg_r0 hK, fun U hU hW => ⟨rfl, hU, hh_7.2.1, hG.step hW hU hh_7.1, hg_r0, hg_zs, hg_zn, hg_za, hg_zb, hg_zc, hg_zy, (hh_7.2.2.1.sub (L1 := [(r0, 15, 0, .ref zs), (r0, 15, 1, .ref zn), (r0, 15, 2, .ref za), (r0, 15, 3, .ref zb), (r0, 15, 4, .ref zc), (r0, 15, 14, .ref zy)]) [7, 8, 9, 10, 11, 12] rfl), (hh_7.2.2.2.2.2.2.2.1.sub (L1 := [(zs, 150, 120000, ca 1, C.s), (zn, 151, 120000, ca 1, C.n), (za, 152, 120000, ca 1, C.a), (zb, 153, 120000, ca 1, C.b), (zc, 154, 120000, ca 1, C.c), (zy, 165, 16, ca 1, C.y)]) [3, 4, 5, 6, 7, 8] rfl), ⟨(by first | assumption | (rw [hqz_9]; exact ((k2.2.1.1.mono (d1 := 1600) (by omega) (Int.le_refl _)).tr (by omega) (by omega))) | (rw [hqz_9]; omega) | omega), (by first | omega | rfl | assumption | (rw [hqz_9]; exact ((k2.2.1.1.mono (d1 := 1600) (by omega) (Int.le_refl _)).tr (by omega) (by omega))) | (rw [hqz_9]; omega)), (by first | omega | rfl | assumption | (rw [hqz_9]; exact ((k2.2.1.1.mono (d1 := 1600) (by omega) (Int.le_refl _)).tr (by omega) (by omega))) | (rw [hqz_9]; omega))⟩⟩⟩ rfl rfl hl.1 rfl (lv_room (Nat.le_of_ble_eq_true rfl)) dX13_rewrite_53 ⟨Nat.zero_le _, Nat.zero_le _⟩) hh_7.1 (fun q _ h => h) (fun q h => h) (fun r_11 u_10 t_10 H_10 locs_10 ht_10 hvm_10 hr_11 hb_10 hz_10 hk_10 hS_10 => ?_)
      rw [ht_10] at hb_10
      obtain ⟨hb_101, hb_102, hb_103, hb_104, hb_105⟩ := hb_10
      have hh_10 : jSt (dC, dI) B base G0 G0 EX13_rewrite s.heap 0 0 [(r0, 15, 5, .int pn), (r0, 15, 34, .int pu), (r0, 15, 11, .int py), (r0, 15, 21, .int pg), (r0, 15, 22, .ref zg), (r0, 15, 25, .ref zh), (r0, 15, 27, .ref zp), (r0, 15, 0, .ref zs), (r0, 15, 1, .ref zn), (r0, 15, 2, .ref za), (r0, 15, 3, .ref zb), (r0, 15, 4, .ref zc), (r0, 15, 14, .ref zy)] [(zg, 161, 46, ca 1, fg), (zh, 159, 46, ca 1, fh), (zp, 162, 368, ca 1, fp), (zs, 150, 120000, ca 1, C.s), (zn, 151, 120000, ca 1, C.n), (za, 152, 120000, ca 1, C.a), (zb, 153, 120000, ca 1, C.b), (zc, 154, 120000, ca 1, C.c), (zy, 165, 16, ca 1, C.y)] [] H_10 locs_10 := ((hh_7.call hb_101 hb_102 hb_103 hb_104 hS_10 rfl (L1 := [(r0, 15, 5, .int pn), (r0, 15, 34, .int pu), (r0, 15, 11, .int py), (r0, 15, 21, .int pg), (r0, 15, 22, .ref zg), (r0, 15, 25, .ref zh), (r0, 15, 27, .ref zp), (r0, 15, 0, .ref zs), (r0, 15, 1, .ref zn), (r0, 15, 2, .ref za), (r0, 15, 3, .ref zb), (r0, 15, 4, .ref zc), (r0, 15, 14, .ref zy)]) [0, 1, 2, 3, 4, 5, 6, 7, 8, 9, 10, 11, 12] rfl rfl (M1 := [(zg, 161, 46, ca 1, fg), (zh, 159, 46, ca 1, fh), (zp, 162, 368, ca 1, fp), (zs, 150, 120000, ca 1, C.s), (zn, 151, 120000, ca 1, C.n), (za, 152, 120000, ca 1, C.a), (zb, 153, 120000, ca 1, C.b), (zc, 154, 120000, ca 1, C.c), (zy, 165, 16, ca 1, C.y)]) [0, 1, 2, 3, 4, 5, 6, 7, 8] rfl rfl (I1 := []) [] rfl rfl).more hb_105)
      clear hh_7 ht_10 hvm_10 hz_10 hk_10 hS_10 hb_101 hb_102 hb_103 hb_104 hb_105
      rw [hqz_9] at hr_11
      refine lv_aload_n hx hb dX13_rewrite_56 rfl (lv_at hl 1 rfl) ?_
      refine lv_aload_n hx hb dX13_rewrite_57 rfl (lv_at hl 1 rfl) ?_
      refine j7_read hx hb hown hK (C := RX13) (T := TX13) (N := 50) rfl hly_15_2 hlk_19 (hh_10.at 9 rfl) dX13_rewrite_58 ?_
      refine lv_iload_n hx hb dX13_rewrite_61 rfl (lv_at hl 2 rfl) ?_
      refine j7_ialdM hx hb hK hh_10 hB152 1 rfl (by decide) hg_za (x := a1.toInt) (rfl) (by omega) (j := 5) rfl dX13_rewrite_62 (fun z_12 ez_12 (hz_12 : True) => ?_)
      have hqz_12 : z_12.toInt = jSo C.a (a1.toInt) := by unfold jSo; rw [ez_12]
      refine va_calli (A0 := jA base) (H0 := s.heap) (va_runV (As := [.int z_12]) (rest := [.int r_11, .int r_5, .int r_8]) ⟨hx, hb, hml, hown, hts⟩ (aX13_size l dC dI ca base B hB hAp hB15 hB150 hB151 hB152 hB153 hB154 hB165 1600 G0 H_10 r0 z_12 zs zn za zb zc zy C) (cwV 1 hts (jgV (jWr_65 _ (List.mem_of_getElem? (i := 11) rfl)) (jWr_65 _ (List.mem_of_getElem? (i := 12) rfl)) (jWr_65 _ (List.mem_of_getElem? (i := 13) rfl)) (jWr_12 _ (List.mem_of_getElem? (i := 12) rfl)) (jWr_65 _ (List.mem_of_getElem? (i := 14) rfl))) rfl rfl rfl (by decide +kernel) ⟨by rw [← hR]; exact Nat.le_of_ble_eq_true rfl, by rw [← hR]; exact Nat.le_of_ble_eq_true rfl⟩) ⟨fun a U g mk q => by obtain ⟨q0, q1, q2, qK, q10, q11, q12, q13, q14, q15, q16, q17, q18, q19⟩ := q; exact ⟨q0, q1, q2, jG.calling g mk a qK, q10, q11, q12, q13, q14, q15, q16, q17, q18, q19⟩, hh_10.recv (C := RX13) (T := TX13) (N := 50) hB15 rfl (by decide) hg_r0 hK, fun U hU hW => ⟨rfl, hU, hh_10.2.1, hG.step hW hU hh_10.1, hg_r0, hg_zs, hg_zn, hg_za, hg_zb, hg_zc, hg_zy, (hh_10.2.2.1.sub (L1 := [(r0, 15, 0, .ref zs), (r0, 15, 1, .ref zn), (r0, 15, 2, .ref za), (r0, 15, 3, .ref zb), (r0, 15, 4, .ref zc), (r0, 15, 14, .ref zy)]) [7, 8, 9, 10, 11, 12] rfl), (hh_10.2.2.2.2.2.2.2.1.sub (L1 := [(zs, 150, 120000, ca 1, C.s), (zn, 151, 120000, ca 1, C.n), (za, 152, 120000, ca 1, C.a), (zb, 153, 120000, ca 1, C.b), (zc, 154, 120000, ca 1, C.c), (zy, 165, 16, ca 1, C.y)]) [3, 4, 5, 6, 7, 8] rfl), ⟨(by first | assumption | (rw [hqz_12]; exact ((k2.1.1.mono (d1 := 1600) (by omega) (Int.le_refl _)).tr (by omega) (by omega))) | (rw [hqz_12]; omega) | omega), (by first | omega | rfl | assumption | (rw [hqz_12]; exact ((k2.1.1.mono (d1 := 1600) (by omega) (Int.le_refl _)).tr (by omega) (by omega))) | (rw [hqz_12]; omega)), (by first | omega | rfl | assumption | (rw [hqz_12]; exact ((k2.1.1.mono (d1 := 1600) (by omega) (Int.le_refl _)).tr (by omega) (by omega))) | (rw [hqz_12]; omega))⟩⟩⟩ rfl rfl hl.1 rfl (lv_room (Nat.le_of_ble_eq_true rfl)) dX13_rewrite_63 ⟨Nat.zero_le _, Nat.zero_le _⟩) hh_10.1 (fun q _ h => h) (fun q h => h) (fun r_14 u_13 t_13 H_13 locs_13 ht_13 hvm_13 hr_14 hb_13 hz_13 hk_13 hS_13 => ?_)
      rw [ht_13] at hb_13
      obtain ⟨hb_131, hb_132, hb_133, hb_134, hb_135⟩ := hb_13
      have hh_13 : jSt (dC, dI) B base G0 G0 EX13_rewrite s.heap 0 0 [(r0, 15, 5, .int pn), (r0, 15, 34, .int pu), (r0, 15, 11, .int py), (r0, 15, 21, .int pg), (r0, 15, 22, .ref zg), (r0, 15, 25, .ref zh), (r0, 15, 27, .ref zp), (r0, 15, 0, .ref zs), (r0, 15, 1, .ref zn), (r0, 15, 2, .ref za), (r0, 15, 3, .ref zb), (r0, 15, 4, .ref zc), (r0, 15, 14, .ref zy)] [(zg, 161, 46, ca 1, fg), (zh, 159, 46, ca 1, fh), (zp, 162, 368, ca 1, fp), (zs, 150, 120000, ca 1, C.s), (zn, 151, 120000, ca 1, C.n), (za, 152, 120000, ca 1, C.a), (zb, 153, 120000, ca 1, C.b), (zc, 154, 120000, ca 1, C.c), (zy, 165, 16, ca 1, C.y)] [] H_13 locs_13 := ((hh_10.call hb_131 hb_132 hb_133 hb_134 hS_13 rfl (L1 := [(r0, 15, 5, .int pn), (r0, 15, 34, .int pu), (r0, 15, 11, .int py), (r0, 15, 21, .int pg), (r0, 15, 22, .ref zg), (r0, 15, 25, .ref zh), (r0, 15, 27, .ref zp), (r0, 15, 0, .ref zs), (r0, 15, 1, .ref zn), (r0, 15, 2, .ref za), (r0, 15, 3, .ref zb), (r0, 15, 4, .ref zc), (r0, 15, 14, .ref zy)]) [0, 1, 2, 3, 4, 5, 6, 7, 8, 9, 10, 11, 12] rfl rfl (M1 := [(zg, 161, 46, ca 1, fg), (zh, 159, 46, ca 1, fh), (zp, 162, 368, ca 1, fp), (zs, 150, 120000, ca 1, C.s), (zn, 151, 120000, ca 1, C.n), (za, 152, 120000, ca 1, C.a), (zb, 153, 120000, ca 1, C.b), (zc, 154, 120000, ca 1, C.c), (zy, 165, 16, ca 1, C.y)]) [0, 1, 2, 3, 4, 5, 6, 7, 8] rfl rfl (I1 := []) [] rfl rfl).more hb_135)
      clear hh_10 ht_13 hvm_13 hz_13 hk_13 hS_13 hb_131 hb_132 hb_133 hb_134 hb_135
      rw [hqz_12] at hr_14
      refine lv_isub hx hb dX13_rewrite_66 ?_
      refine lv_topi (fun z_15 ez_15 => ?_)
      have hz_15 : z_15.toInt = r_11.toInt - r_14.toInt := by rw [ez_15]; exact jb_isub2 (rfl) (rfl) (by omega)
      refine lv_imul hx hb dX13_rewrite_67 ?_
      refine lv_topi (fun z_16 ez_16 => ?_)
      have hmz_16 := jMulB (a := r_5.toInt) (b := z_15.toInt) (by omega) (by omega)
      have hmm : r_5.toInt * z_15.toInt = jCn C (jSo C.a a1.toInt) a2.toInt * (jsz C (jSo C.b a1.toInt) - jsz C (jSo C.a a1.toInt)) := by rw [hr_5, show z_15.toInt = jsz C (jSo C.b a1.toInt) - jsz C (jSo C.a a1.toInt) by omega]
      have hz_16 : z_16.toInt = r_5.toInt * z_15.toInt := by rw [ez_16]; exact jb_imul2 (rfl) (rfl) (by omega)
      refine lv_iadd hx hb dX13_rewrite_68 ?_
      refine lv_topi (fun z_17 ez_17 => ?_)
      have hz_17 : z_17.toInt = r_8.toInt + z_16.toInt := by rw [ez_17]; exact jb_iadd2 (rfl) (rfl) (by omega)
      refine lv_bipush (v := 80) hx hb dX13_rewrite_69 (by decide) ?_
      refine lv_icmp_le (tgt := 80) hx hb dX13_rewrite_71 (by decide) (fun c_18 => ?_) (fun c_18 => ?_)
      · skip
        have c_18' : z_17.toInt ≤ 80 := jb_le (rfl) ((by decide)) c_18
        refine lv_aload_n hx hb dX13_rewrite_80 rfl (lv_at hl 1 rfl) ?_
        refine j7_read hx hb hown hK (C := RX13) (T := TX13) (N := 50) rfl hly_15_34 hlk_221 (hh_13.at 1 rfl) dX13_rewrite_81 ?_
        refine lv_if_ne (tgt := 110) hx hb dX13_rewrite_84 (by decide) (fun c_19 => ?_) (fun c_19 => ?_)
        · skip
          have c_19' : pu.toInt ≠ 0 := jb_ne (rfl) ((by decide)) c_19
          rw [hQ]
          exact W.vret hx hb hr (fun t ht hW => ⟨⟨(pn, pu, fg, C), rfl, by (try dsimp only); exact ⟨by omega, by omega, by omega, by omega, jAgK.rf _ _, hp0⟩, ⟨hh_13.rt (M1 := [(r0, 15, 5, .int pn), (r0, 15, 34, .int pu)]) [0, 1] rfl ht, by rw [ht]; exact hh_13.2.2.2.2.2.2.2.1.sub [0, 3, 4, 5, 6, 7, 8] rfl⟩⟩, by rw [ht]; try exact hh_13.1.1, fun q h9 hq => by rw [ht]; try exact hh_13.1.2.1 q h9 hq⟩) hh_13.1.2.2 dX13_rewrite_110
        · skip
          have c_19' : pu.toInt = 0 := jb_ne_n (rfl) ((by decide)) c_19
          refine lv_aload_n hx hb dX13_rewrite_87 rfl (lv_at hl 1 rfl) ?_
          refine j7_read hx hb hown hK (C := RX13) (T := TX13) (N := 50) rfl hly_15_22 hlk_53 (hh_13.at 4 rfl) dX13_rewrite_88 ?_
          refine lv_iconst (v := 0) hx hb dX13_rewrite_91 (by decide) ?_
          refine lv_aload_n hx hb dX13_rewrite_92 rfl (lv_at hl 1 rfl) ?_
          refine lv_iload_n hx hb dX13_rewrite_93 rfl (lv_at hl 3 rfl) ?_
          refine lv_aload_n hx hb dX13_rewrite_94 rfl (lv_at hl 1 rfl) ?_
          refine j7_read hx hb hown hK (C := RX13) (T := TX13) (N := 50) rfl hly_15_2 hlk_19 (hh_13.at 9 rfl) dX13_rewrite_95 ?_
          refine lv_iload_n hx hb dX13_rewrite_98 rfl (lv_at hl 2 rfl) ?_
          refine j7_ialdM hx hb hK hh_13 hB152 1 rfl (by decide) hg_za (x := a1.toInt) (rfl) (by omega) (j := 5) rfl dX13_rewrite_99 (fun z_20 ez_20 (hz_20 : True) => ?_)
          have hqz_20 : z_20.toInt = jSo C.a (a1.toInt) := by unfold jSo; rw [ez_20]
          refine lv_aload_n hx hb dX13_rewrite_100 rfl (lv_at hl 1 rfl) ?_
          refine j7_read hx hb hown hK (C := RX13) (T := TX13) (N := 50) rfl hly_15_3 hlk_22 (hh_13.at 10 rfl) dX13_rewrite_101 ?_
          refine lv_iload_n hx hb dX13_rewrite_104 rfl (lv_at hl 2 rfl) ?_
          refine j7_ialdM hx hb hK hh_13 hB153 1 rfl (by decide) hg_zb (x := a1.toInt) (rfl) (by omega) (j := 6) rfl dX13_rewrite_105 (fun z_21 ez_21 (hz_21 : True) => ?_)
          have hqz_21 : z_21.toInt = jSo C.b (a1.toInt) := by unfold jSo; rw [ez_21]
          refine va_calli (A0 := jA base) (H0 := s.heap) (va_runV (As := [.int a2, .int z_20, .int z_21]) (rest := [.int 0, .ref zg]) ⟨hx, hb, hml, hown, hts⟩ (aX13_replaced l dC dI ca base B hB hAp hB15 hB150 hB151 hB152 hB153 hB154 hB165 80 G0 H_13 r0 a2 z_20 z_21 pn py zs zn za zb zc zy 0 C) (cwV 3 hts (jgV (jWr_69 _ (List.mem_of_getElem? (i := 7) rfl)) (jWr_69 _ (List.mem_of_getElem? (i := 8) rfl)) (jWr_69 _ (List.mem_of_getElem? (i := 9) rfl)) (jWr_12 _ (List.mem_of_getElem? (i := 12) rfl)) (jWr_69 _ (List.mem_of_getElem? (i := 10) rfl))) rfl rfl rfl (by decide +kernel) ⟨by rw [← hR]; exact Nat.le_of_ble_eq_true rfl, by rw [← hR]; exact Nat.le_of_ble_eq_true rfl⟩) ⟨fun a U g mk q => by obtain ⟨q0, q1, q2, qK, q10, q11, q12, q13, q14, q15, q16, q17, q18, q19⟩ := q; exact ⟨q0, q1, q2, jG.calling g mk a qK, q10, q11, q12, q13, q14, q15, q16, q17, q18, q19⟩, hh_13.recv (C := RX13) (T := TX13) (N := 50) hB15 rfl (by decide) hg_r0 hK, fun U hU hW => ⟨rfl, hU, hh_13.2.1, hG.step hW hU hh_13.1, hg_r0, hg_zs, hg_zn, hg_za, hg_zb, hg_zc, hg_zy, (hh_13.2.2.1.sub (L1 := [(r0, 15, 5, .int pn), (r0, 15, 11, .int py), (r0, 15, 0, .ref zs), (r0, 15, 1, .ref zn), (r0, 15, 2, .ref za), (r0, 15, 3, .ref zb), (r0, 15, 4, .ref zc), (r0, 15, 14, .ref zy)]) [0, 2, 7, 8, 9, 10, 11, 12] rfl), (hh_13.2.2.2.2.2.2.2.1.sub (L1 := [(zs, 150, 120000, ca 1, C.s), (zn, 151, 120000, ca 1, C.n), (za, 152, 120000, ca 1, C.a), (zb, 153, 120000, ca 1, C.b), (zc, 154, 120000, ca 1, C.c), (zy, 165, 16, ca 1, C.y)]) [3, 4, 5, 6, 7, 8] rfl), ⟨(by first | assumption | exact hg0.1 | (rw [hqz_20]; exact k2.1.1) | (rw [hqz_21]; exact k2.2.1.1) | omega), (by first | assumption | exact hg0.1 | (rw [hqz_20]; exact k2.1.1) | (rw [hqz_21]; exact k2.2.1.1) | omega), (by first | assumption | exact hg0.1 | (rw [hqz_20]; exact k2.1.1) | (rw [hqz_21]; exact k2.2.1.1) | omega), (by first | omega | rfl | assumption | exact hg0.1 | (rw [hqz_20]; exact k2.1.1) | (rw [hqz_21]; exact k2.2.1.1)), (by first | omega | rfl | assumption | exact hg0.1 | (rw [hqz_20]; exact k2.1.1) | (rw [hqz_21]; exact k2.2.1.1)), (by first | omega | rfl | assumption | exact hg0.1 | (rw [hqz_20]; exact k2.1.1) | (rw [hqz_21]; exact k2.2.1.1)), (by first | omega | rfl | assumption | exact hg0.1 | (rw [hqz_20]; exact k2.1.1) | (rw [hqz_21]; exact k2.2.1.1)), (by first | omega | rfl | assumption | exact hg0.1 | (rw [hqz_20]; exact k2.1.1) | (rw [hqz_21]; exact k2.2.1.1)), (by first | omega | rfl | assumption | exact hg0.1 | (rw [hqz_20]; exact k2.1.1) | (rw [hqz_21]; exact k2.2.1.1))⟩⟩⟩ rfl rfl hl.1 rfl (lv_room (Nat.le_of_ble_eq_true rfl)) dX13_rewrite_106 ⟨Nat.zero_le _, Nat.zero_le _⟩) hh_13.1 (fun q _ h => h) (fun q h => h) (fun r_23 u_22 t_22 H_22 locs_22 ht_22 hvm_22 hr_23 hb_22 hz_22 hk_22 hS_22 => ?_)
          obtain ⟨qn_22, D_22⟩ := u_22
          rw [ht_22] at hb_22
          obtain ⟨⟨hb_221, hb_222, hb_223, hb_224, hb_225⟩, hb_226⟩ := hb_22
          have hh_22 : jSt (dC, dI) B base G0 G0 EX13_rewrite s.heap 0 0 [(r0, 15, 5, .int qn_22), (r0, 15, 34, .int pu), (r0, 15, 11, .int py), (r0, 15, 21, .int pg), (r0, 15, 22, .ref zg), (r0, 15, 25, .ref zh), (r0, 15, 27, .ref zp), (r0, 15, 0, .ref zs), (r0, 15, 1, .ref zn), (r0, 15, 2, .ref za), (r0, 15, 3, .ref zb), (r0, 15, 4, .ref zc), (r0, 15, 14, .ref zy)] [(zs, 150, 120000, ca 1, D_22.s), (zn, 151, 120000, ca 1, D_22.n), (za, 152, 120000, ca 1, D_22.a), (zb, 153, 120000, ca 1, D_22.b), (zc, 154, 120000, ca 1, D_22.c), (zy, 165, 16, ca 1, D_22.y), (zg, 161, 46, ca 1, fg), (zh, 159, 46, ca 1, fh), (zp, 162, 368, ca 1, fp), (zy, 165, 16, ca 1, C.y)] [] H_22 locs_22 := ((hh_13.call hb_221 hb_222 hb_223 hb_224 hS_22 rfl (L1 := [(r0, 15, 34, .int pu), (r0, 15, 11, .int py), (r0, 15, 21, .int pg), (r0, 15, 22, .ref zg), (r0, 15, 25, .ref zh), (r0, 15, 27, .ref zp), (r0, 15, 0, .ref zs), (r0, 15, 1, .ref zn), (r0, 15, 2, .ref za), (r0, 15, 3, .ref zb), (r0, 15, 4, .ref zc), (r0, 15, 14, .ref zy)]) [1, 2, 3, 4, 5, 6, 7, 8, 9, 10, 11, 12] rfl rfl (M1 := [(zg, 161, 46, ca 1, fg), (zh, 159, 46, ca 1, fh), (zp, 162, 368, ca 1, fp), (zy, 165, 16, ca 1, C.y)]) [0, 1, 2, 8] rfl rfl (I1 := []) [] rfl rfl).more hb_225).moreM hb_226
          clear hh_13 ht_22 hvm_22 hz_22 hk_22 hS_22 hb_221 hb_222 hb_223 hb_224 hb_225
          clear hb_226
          try simp only at hr_23
          obtain ⟨hr_23_0, hr_23_1, hr_23_2, hr_23_3, hr_23_4⟩ := hr_23
          have hb5 := hr_23_3.nd
          have hb6 := hb5.1
          have hb7 := hb5.2.1
          refine j7_iastU hx hb hK hh_22 hB hB161 1 rfl (by decide) (by decide) rfl 6 rfl (M1 := [(zs, 150, 120000, ca 1, D_22.s), (zn, 151, 120000, ca 1, D_22.n), (za, 152, 120000, ca 1, D_22.a), (zb, 153, 120000, ca 1, D_22.b), (zc, 154, 120000, ca 1, D_22.c), (zy, 165, 16, ca 1, D_22.y), (zh, 159, 46, ca 1, fh), (zp, 162, 368, ca 1, fp), (zy, 165, 16, ca 1, C.y)]) [0, 1, 2, 3, 4, 5, 7, 8, 9] rfl rfl rfl hg_zg (x := 0) ((by decide)) (by omega) (by first | omega | (refine ⟨?_, ?_⟩ <;> (first | omega | rfl | assumption | decide | exact Or.inl rfl | exact Or.inr rfl | (simp only; omega)))) dX13_rewrite_109 (fun H_24 locs_24 fs_25 hv_24 ho_24 hh_24 => ?_)
          have hv_24 : jSo fs_25 (0) = r_23.toInt := by unfold jSo; rw [hv_24]; try exact rfl
          clear hh_22
          rw [hQ]
          exact W.vret hx hb hr (fun t ht hW => ⟨⟨(qn_22, pu, fs_25, D_22), rfl, by
    try dsimp only
    have hz : jsz D_22 r_23.toInt ≤ 80 := by
      rw [hr_23_4]; unfold jCd; rw [hqz_20, hqz_21]; omega
    refine ⟨by omega, by omega, by omega, by omega, hr_23_2, ?_⟩
    exact (hp0.mono (fun x q => q.ag hr_23_2 (by omega))).set (jUpd.mk (n := 46) hv_24 ho_24 rfl (by omega)) (jG1.of hr_23_3 (by omega) hz) (by omega), ⟨hh_24.rt (M1 := [(r0, 15, 5, .int qn_22), (r0, 15, 34, .int pu)]) [0, 1] rfl ht, by rw [ht]; exact hh_24.2.2.2.2.2.2.2.1.sub [0, 1, 2, 3, 4, 5, 6] rfl⟩⟩, by rw [ht]; try exact hh_24.1.1, fun q h9 hq => by rw [ht]; try exact hh_24.1.2.1 q h9 hq⟩) hh_24.1.2.2 dX13_rewrite_110
      · skip
        have c_18' : z_17.toInt > 80 := jb_le_n (rfl) ((by decide)) c_18
        refine lv_aload_n hx hb dX13_rewrite_74 rfl (lv_at hl 1 rfl) ?_
        refine lv_bipush (v := 9) hx hb dX13_rewrite_75 (by decide) ?_
        refine va_callv (A0 := jA base) (H0 := s.heap) (va_runV (As := [.int 9]) (rest := []) ⟨hx, hb, hml, hown, hts⟩ (uX13_failsK l dC dI ca base B hB hAp hB15 G0 H_13 r0 9 pu) (cwV 1 hts (jgV (jWr_64 _ (List.mem_of_getElem? (i := 19) rfl)) (jWr_64 _ (List.mem_of_getElem? (i := 20) rfl)) (jWr_64 _ (List.mem_of_getElem? (i := 21) rfl)) (jWr_12 _ (List.mem_of_getElem? (i := 12) rfl)) (jWr_64 _ (List.mem_of_getElem? (i := 22) rfl))) rfl rfl rfl (by decide +kernel) ⟨by rw [← hR]; exact Nat.le_of_ble_eq_true rfl, by rw [← hR]; exact Nat.le_of_ble_eq_true rfl⟩) ⟨fun a U g mk q => by obtain ⟨q0, q1, q2, qK, q10, q11, q12⟩ := q; exact ⟨q0, q1, q2, jG.calling g mk a qK, q10, q11, q12⟩, hh_13.recv (C := RX13) (T := TX13) (N := 50) hB15 rfl (by decide) hg_r0 hK, fun U hU hW => ⟨rfl, hU, hh_13.2.1, hG.step hW hU hh_13.1, hg_r0, (hh_13.2.2.1.sub (L1 := [(r0, 15, 34, .int pu)]) [1] rfl), by first | omega | (refine ⟨?_, ?_, ?_, ?_⟩ <;> (first | omega | rfl | assumption | decide | exact Or.inl rfl | exact Or.inr rfl | (simp only; omega)))⟩⟩ rfl rfl hl.1 rfl (lv_room (Nat.le_of_ble_eq_true rfl)) dX13_rewrite_77 ⟨Nat.zero_le _, Nat.zero_le _⟩) hh_13.1 (fun q _ h => h) (fun q h => h) (fun u_26 t_26 H_26 locs_26 ht_26 hvm_26 hr_27 hb_26 hz_26 hk_26 hS_26 => ?_)
        obtain ⟨qu_26, rfl⟩ : ∃ z, z = u_26 := ⟨_, rfl⟩
        rw [ht_26] at hb_26
        obtain ⟨hb_261, hb_262, hb_263, hb_264, hb_265⟩ := hb_26
        have hh_26 : jSt (dC, dI) B base G0 G0 EX13_rewrite s.heap 0 0 [(r0, 15, 34, .int qu_26), (r0, 15, 5, .int pn), (r0, 15, 11, .int py), (r0, 15, 21, .int pg), (r0, 15, 22, .ref zg), (r0, 15, 25, .ref zh), (r0, 15, 27, .ref zp), (r0, 15, 0, .ref zs), (r0, 15, 1, .ref zn), (r0, 15, 2, .ref za), (r0, 15, 3, .ref zb), (r0, 15, 4, .ref zc), (r0, 15, 14, .ref zy)] [(zg, 161, 46, ca 1, fg), (zh, 159, 46, ca 1, fh), (zp, 162, 368, ca 1, fp), (zs, 150, 120000, ca 1, C.s), (zn, 151, 120000, ca 1, C.n), (za, 152, 120000, ca 1, C.a), (zb, 153, 120000, ca 1, C.b), (zc, 154, 120000, ca 1, C.c), (zy, 165, 16, ca 1, C.y)] [] H_26 locs_26 := ((hh_13.call hb_261 hb_262 hb_263 hb_264 hS_26 rfl (L1 := [(r0, 15, 5, .int pn), (r0, 15, 11, .int py), (r0, 15, 21, .int pg), (r0, 15, 22, .ref zg), (r0, 15, 25, .ref zh), (r0, 15, 27, .ref zp), (r0, 15, 0, .ref zs), (r0, 15, 1, .ref zn), (r0, 15, 2, .ref za), (r0, 15, 3, .ref zb), (r0, 15, 4, .ref zc), (r0, 15, 14, .ref zy)]) [0, 2, 3, 4, 5, 6, 7, 8, 9, 10, 11, 12] rfl rfl (M1 := [(zg, 161, 46, ca 1, fg), (zh, 159, 46, ca 1, fh), (zp, 162, 368, ca 1, fp), (zs, 150, 120000, ca 1, C.s), (zn, 151, 120000, ca 1, C.n), (za, 152, 120000, ca 1, C.a), (zb, 153, 120000, ca 1, C.b), (zc, 154, 120000, ca 1, C.c), (zy, 165, 16, ca 1, C.y)]) [0, 1, 2, 3, 4, 5, 6, 7, 8] rfl rfl (I1 := []) [] rfl rfl).more hb_265)
        clear hh_13 ht_26 hvm_26 hz_26 hk_26 hS_26 hb_261 hb_262 hb_263 hb_264 hb_265
        obtain ⟨hr_27_0, hr_27_1, hr_27_2, hr_27_3⟩ := hr_27
        refine lv_aload_n hx hb dX13_rewrite_80 rfl (lv_at hl 1 rfl) ?_
        refine j7_read hx hb hown hK (C := RX13) (T := TX13) (N := 50) rfl hly_15_34 hlk_221 (hh_26.at 0 rfl) dX13_rewrite_81 ?_
        refine lv_if_ne (tgt := 110) hx hb dX13_rewrite_84 (by decide) (fun c_28 => ?_) (fun c_28 => ?_)
        · skip
          have c_28' : qu_26.toInt ≠ 0 := jb_ne (rfl) ((by decide)) c_28
          rw [hQ]
          exact W.vret hx hb hr (fun t ht hW => ⟨⟨(pn, qu_26, fg, C), rfl, by (try dsimp only); exact ⟨by omega, by omega, by omega, by omega, jAgK.rf _ _, hp0⟩, ⟨hh_26.rt (M1 := [(r0, 15, 5, .int pn), (r0, 15, 34, .int qu_26)]) [1, 0] rfl ht, by rw [ht]; exact hh_26.2.2.2.2.2.2.2.1.sub [0, 3, 4, 5, 6, 7, 8] rfl⟩⟩, by rw [ht]; try exact hh_26.1.1, fun q h9 hq => by rw [ht]; try exact hh_26.1.2.1 q h9 hq⟩) hh_26.1.2.2 dX13_rewrite_110
        · skip
          have c_28' : qu_26.toInt = 0 := jb_ne_n (rfl) ((by decide)) c_28
          exact (by omega : False).elim
    · skip
      have c_6' : r_5.toInt = 0 := jb_ne_n (rfl) ((by decide)) c_6
      refine lv_aload_n hx hb dX13_rewrite_34 rfl (lv_at hl 1 rfl) ?_
      refine lv_bipush (v := 8) hx hb dX13_rewrite_35 (by decide) ?_
      refine va_callv (A0 := jA base) (H0 := s.heap) (va_runV (As := [.int 8]) (rest := []) ⟨hx, hb, hml, hown, hts⟩ (uX13_failsK l dC dI ca base B hB hAp hB15 G0 H_4 r0 8 pu) (cwV 1 hts (jgV (jWr_64 _ (List.mem_of_getElem? (i := 19) rfl)) (jWr_64 _ (List.mem_of_getElem? (i := 20) rfl)) (jWr_64 _ (List.mem_of_getElem? (i := 21) rfl)) (jWr_12 _ (List.mem_of_getElem? (i := 12) rfl)) (jWr_64 _ (List.mem_of_getElem? (i := 22) rfl))) rfl rfl rfl (by decide +kernel) ⟨by rw [← hR]; exact Nat.le_of_ble_eq_true rfl, by rw [← hR]; exact Nat.le_of_ble_eq_true rfl⟩) ⟨fun a U g mk q => by obtain ⟨q0, q1, q2, qK, q10, q11, q12⟩ := q; exact ⟨q0, q1, q2, jG.calling g mk a qK, q10, q11, q12⟩, hh_4.recv (C := RX13) (T := TX13) (N := 50) hB15 rfl (by decide) hg_r0 hK, fun U hU hW => ⟨rfl, hU, hh_4.2.1, hG.step hW hU hh_4.1, hg_r0, (hh_4.2.2.1.sub (L1 := [(r0, 15, 34, .int pu)]) [1] rfl), by first | omega | (refine ⟨?_, ?_, ?_, ?_⟩ <;> (first | omega | rfl | assumption | decide | exact Or.inl rfl | exact Or.inr rfl | (simp only; omega)))⟩⟩ rfl rfl hl.1 rfl (lv_room (Nat.le_of_ble_eq_true rfl)) dX13_rewrite_37 ⟨Nat.zero_le _, Nat.zero_le _⟩) hh_4.1 (fun q _ h => h) (fun q h => h) (fun u_29 t_29 H_29 locs_29 ht_29 hvm_29 hr_30 hb_29 hz_29 hk_29 hS_29 => ?_)
      obtain ⟨qu_29, rfl⟩ : ∃ z, z = u_29 := ⟨_, rfl⟩
      rw [ht_29] at hb_29
      obtain ⟨hb_291, hb_292, hb_293, hb_294, hb_295⟩ := hb_29
      have hh_29 : jSt (dC, dI) B base G0 G0 EX13_rewrite s.heap 0 0 [(r0, 15, 34, .int qu_29), (r0, 15, 5, .int pn), (r0, 15, 11, .int py), (r0, 15, 21, .int pg), (r0, 15, 22, .ref zg), (r0, 15, 25, .ref zh), (r0, 15, 27, .ref zp), (r0, 15, 0, .ref zs), (r0, 15, 1, .ref zn), (r0, 15, 2, .ref za), (r0, 15, 3, .ref zb), (r0, 15, 4, .ref zc), (r0, 15, 14, .ref zy)] [(zg, 161, 46, ca 1, fg), (zh, 159, 46, ca 1, fh), (zp, 162, 368, ca 1, fp), (zs, 150, 120000, ca 1, C.s), (zn, 151, 120000, ca 1, C.n), (za, 152, 120000, ca 1, C.a), (zb, 153, 120000, ca 1, C.b), (zc, 154, 120000, ca 1, C.c), (zy, 165, 16, ca 1, C.y)] [] H_29 locs_29 := ((hh_4.call hb_291 hb_292 hb_293 hb_294 hS_29 rfl (L1 := [(r0, 15, 5, .int pn), (r0, 15, 11, .int py), (r0, 15, 21, .int pg), (r0, 15, 22, .ref zg), (r0, 15, 25, .ref zh), (r0, 15, 27, .ref zp), (r0, 15, 0, .ref zs), (r0, 15, 1, .ref zn), (r0, 15, 2, .ref za), (r0, 15, 3, .ref zb), (r0, 15, 4, .ref zc), (r0, 15, 14, .ref zy)]) [0, 2, 3, 4, 5, 6, 7, 8, 9, 10, 11, 12] rfl rfl (M1 := [(zg, 161, 46, ca 1, fg), (zh, 159, 46, ca 1, fh), (zp, 162, 368, ca 1, fp), (zs, 150, 120000, ca 1, C.s), (zn, 151, 120000, ca 1, C.n), (za, 152, 120000, ca 1, C.a), (zb, 153, 120000, ca 1, C.b), (zc, 154, 120000, ca 1, C.c), (zy, 165, 16, ca 1, C.y)]) [0, 1, 2, 3, 4, 5, 6, 7, 8] rfl rfl (I1 := []) [] rfl rfl).more hb_295)
      clear hh_4 ht_29 hvm_29 hz_29 hk_29 hS_29 hb_291 hb_292 hb_293 hb_294 hb_295
      obtain ⟨hr_30_0, hr_30_1, hr_30_2, hr_30_3⟩ := hr_30
      refine lv_aload_n hx hb dX13_rewrite_40 rfl (lv_at hl 1 rfl) ?_
      refine lv_iload_n hx hb dX13_rewrite_41 rfl (lv_at hl 3 rfl) ?_
      refine va_calli (A0 := jA base) (H0 := s.heap) (va_runV (As := [.int a2]) (rest := []) ⟨hx, hb, hml, hown, hts⟩ (aX13_size l dC dI ca base B hB hAp hB15 hB150 hB151 hB152 hB153 hB154 hB165 1600 G0 H_29 r0 a2 zs zn za zb zc zy C) (cwV 1 hts (jgV (jWr_65 _ (List.mem_of_getElem? (i := 11) rfl)) (jWr_65 _ (List.mem_of_getElem? (i := 12) rfl)) (jWr_65 _ (List.mem_of_getElem? (i := 13) rfl)) (jWr_12 _ (List.mem_of_getElem? (i := 12) rfl)) (jWr_65 _ (List.mem_of_getElem? (i := 14) rfl))) rfl rfl rfl (by decide +kernel) ⟨by rw [← hR]; exact Nat.le_of_ble_eq_true rfl, by rw [← hR]; exact Nat.le_of_ble_eq_true rfl⟩) ⟨fun a U g mk q => by obtain ⟨q0, q1, q2, qK, q10, q11, q12, q13, q14, q15, q16, q17, q18, q19⟩ := q; exact ⟨q0, q1, q2, jG.calling g mk a qK, q10, q11, q12, q13, q14, q15, q16, q17, q18, q19⟩, hh_29.recv (C := RX13) (T := TX13) (N := 50) hB15 rfl (by decide) hg_r0 hK, fun U hU hW => ⟨rfl, hU, hh_29.2.1, hG.step hW hU hh_29.1, hg_r0, hg_zs, hg_zn, hg_za, hg_zb, hg_zc, hg_zy, (hh_29.2.2.1.sub (L1 := [(r0, 15, 0, .ref zs), (r0, 15, 1, .ref zn), (r0, 15, 2, .ref za), (r0, 15, 3, .ref zb), (r0, 15, 4, .ref zc), (r0, 15, 14, .ref zy)]) [7, 8, 9, 10, 11, 12] rfl), (hh_29.2.2.2.2.2.2.2.1.sub (L1 := [(zs, 150, 120000, ca 1, C.s), (zn, 151, 120000, ca 1, C.n), (za, 152, 120000, ca 1, C.a), (zb, 153, 120000, ca 1, C.b), (zc, 154, 120000, ca 1, C.c), (zy, 165, 16, ca 1, C.y)]) [3, 4, 5, 6, 7, 8] rfl), ⟨(by first | assumption | exact ((hg0.1.mono (d1 := 1600) (by omega) (Int.le_refl _)).tr (by omega) (by omega)) | omega), (by first | omega | rfl | assumption | exact ((hg0.1.mono (d1 := 1600) (by omega) (Int.le_refl _)).tr (by omega) (by omega))), (by first | omega | rfl | assumption | exact ((hg0.1.mono (d1 := 1600) (by omega) (Int.le_refl _)).tr (by omega) (by omega)))⟩⟩⟩ rfl rfl hl.1 rfl (lv_room (Nat.le_of_ble_eq_true rfl)) dX13_rewrite_42 ⟨Nat.zero_le _, Nat.zero_le _⟩) hh_29.1 (fun q _ h => h) (fun q h => h) (fun r_32 u_31 t_31 H_31 locs_31 ht_31 hvm_31 hr_32 hb_31 hz_31 hk_31 hS_31 => ?_)
      rw [ht_31] at hb_31
      obtain ⟨hb_311, hb_312, hb_313, hb_314, hb_315⟩ := hb_31
      have hh_31 : jSt (dC, dI) B base G0 G0 EX13_rewrite s.heap 0 0 [(r0, 15, 34, .int qu_29), (r0, 15, 5, .int pn), (r0, 15, 11, .int py), (r0, 15, 21, .int pg), (r0, 15, 22, .ref zg), (r0, 15, 25, .ref zh), (r0, 15, 27, .ref zp), (r0, 15, 0, .ref zs), (r0, 15, 1, .ref zn), (r0, 15, 2, .ref za), (r0, 15, 3, .ref zb), (r0, 15, 4, .ref zc), (r0, 15, 14, .ref zy)] [(zg, 161, 46, ca 1, fg), (zh, 159, 46, ca 1, fh), (zp, 162, 368, ca 1, fp), (zs, 150, 120000, ca 1, C.s), (zn, 151, 120000, ca 1, C.n), (za, 152, 120000, ca 1, C.a), (zb, 153, 120000, ca 1, C.b), (zc, 154, 120000, ca 1, C.c), (zy, 165, 16, ca 1, C.y)] [] H_31 locs_31 := ((hh_29.call hb_311 hb_312 hb_313 hb_314 hS_31 rfl (L1 := [(r0, 15, 34, .int qu_29), (r0, 15, 5, .int pn), (r0, 15, 11, .int py), (r0, 15, 21, .int pg), (r0, 15, 22, .ref zg), (r0, 15, 25, .ref zh), (r0, 15, 27, .ref zp), (r0, 15, 0, .ref zs), (r0, 15, 1, .ref zn), (r0, 15, 2, .ref za), (r0, 15, 3, .ref zb), (r0, 15, 4, .ref zc), (r0, 15, 14, .ref zy)]) [0, 1, 2, 3, 4, 5, 6, 7, 8, 9, 10, 11, 12] rfl rfl (M1 := [(zg, 161, 46, ca 1, fg), (zh, 159, 46, ca 1, fh), (zp, 162, 368, ca 1, fp), (zs, 150, 120000, ca 1, C.s), (zn, 151, 120000, ca 1, C.n), (za, 152, 120000, ca 1, C.a), (zb, 153, 120000, ca 1, C.b), (zc, 154, 120000, ca 1, C.c), (zy, 165, 16, ca 1, C.y)]) [0, 1, 2, 3, 4, 5, 6, 7, 8] rfl rfl (I1 := []) [] rfl rfl).more hb_315)
      clear hh_29 ht_31 hvm_31 hz_31 hk_31 hS_31 hb_311 hb_312 hb_313 hb_314 hb_315
      refine lv_iload_n hx hb dX13_rewrite_45 rfl (lv_at hl 0 rfl) ?_
      refine lv_aload_n hx hb dX13_rewrite_46 rfl (lv_at hl 1 rfl) ?_
      refine lv_aload_n hx hb dX13_rewrite_47 rfl (lv_at hl 1 rfl) ?_
      refine j7_read hx hb hown hK (C := RX13) (T := TX13) (N := 50) rfl hly_15_3 hlk_22 (hh_31.at 10 rfl) dX13_rewrite_48 ?_
      refine lv_iload_n hx hb dX13_rewrite_51 rfl (lv_at hl 2 rfl) ?_
      refine j7_ialdM hx hb hK hh_31 hB153 1 rfl (by decide) hg_zb (x := a1.toInt) (rfl) (by omega) (j := 6) rfl dX13_rewrite_52 (fun z_33 ez_33 (hz_33 : True) => ?_)
      have hqz_33 : z_33.toInt = jSo C.b (a1.toInt) := by unfold jSo; rw [ez_33]
      refine va_calli (A0 := jA base) (H0 := s.heap) (va_runV (As := [.int z_33]) (rest := [.int r_5, .int r_32]) ⟨hx, hb, hml, hown, hts⟩ (aX13_size l dC dI ca base B hB hAp hB15 hB150 hB151 hB152 hB153 hB154 hB165 1600 G0 H_31 r0 z_33 zs zn za zb zc zy C) (cwV 1 hts (jgV (jWr_65 _ (List.mem_of_getElem? (i := 11) rfl)) (jWr_65 _ (List.mem_of_getElem? (i := 12) rfl)) (jWr_65 _ (List.mem_of_getElem? (i := 13) rfl)) (jWr_12 _ (List.mem_of_getElem? (i := 12) rfl)) (jWr_65 _ (List.mem_of_getElem? (i := 14) rfl))) rfl rfl rfl (by decide +kernel) ⟨by rw [← hR]; exact Nat.le_of_ble_eq_true rfl, by rw [← hR]; exact Nat.le_of_ble_eq_true rfl⟩) ⟨fun a U g mk q => by obtain ⟨q0, q1, q2, qK, q10, q11, q12, q13, q14, q15, q16, q17, q18, q19⟩ := q; exact ⟨q0, q1, q2, jG.calling g mk a qK, q10, q11, q12, q13, q14, q15, q16, q17, q18, q19⟩, hh_31.recv (C := RX13) (T := TX13) (N := 50) hB15 rfl (by decide) hg_r0 hK, fun U hU hW => ⟨rfl, hU, hh_31.2.1, hG.step hW hU hh_31.1, hg_r0, hg_zs, hg_zn, hg_za, hg_zb, hg_zc, hg_zy, (hh_31.2.2.1.sub (L1 := [(r0, 15, 0, .ref zs), (r0, 15, 1, .ref zn), (r0, 15, 2, .ref za), (r0, 15, 3, .ref zb), (r0, 15, 4, .ref zc), (r0, 15, 14, .ref zy)]) [7, 8, 9, 10, 11, 12] rfl), (hh_31.2.2.2.2.2.2.2.1.sub (L1 := [(zs, 150, 120000, ca 1, C.s), (zn, 151, 120000, ca 1, C.n), (za, 152, 120000, ca 1, C.a), (zb, 153, 120000, ca 1, C.b), (zc, 154, 120000, ca 1, C.c), (zy, 165, 16, ca 1, C.y)]) [3, 4, 5, 6, 7, 8] rfl), ⟨(by first | assumption | (rw [hqz_33]; exact ((k2.2.1.1.mono (d1 := 1600) (by omega) (Int.le_refl _)).tr (by omega) (by omega))) | (rw [hqz_33]; omega) | omega), (by first | omega | rfl | assumption | (rw [hqz_33]; exact ((k2.2.1.1.mono (d1 := 1600) (by omega) (Int.le_refl _)).tr (by omega) (by omega))) | (rw [hqz_33]; omega)), (by first | omega | rfl | assumption | (rw [hqz_33]; exact ((k2.2.1.1.mono (d1 := 1600) (by omega) (Int.le_refl _)).tr (by omega) (by omega))) | (rw [hqz_33]; omega))⟩⟩⟩ rfl rfl hl.1 rfl (lv_room (Nat.le_of_ble_eq_true rfl)) dX13_rewrite_53 ⟨Nat.zero_le _, Nat.zero_le _⟩) hh_31.1 (fun q _ h => h) (fun q h => h) (fun r_35 u_34 t_34 H_34 locs_34 ht_34 hvm_34 hr_35 hb_34 hz_34 hk_34 hS_34 => ?_)
      rw [ht_34] at hb_34
      obtain ⟨hb_341, hb_342, hb_343, hb_344, hb_345⟩ := hb_34
      have hh_34 : jSt (dC, dI) B base G0 G0 EX13_rewrite s.heap 0 0 [(r0, 15, 34, .int qu_29), (r0, 15, 5, .int pn), (r0, 15, 11, .int py), (r0, 15, 21, .int pg), (r0, 15, 22, .ref zg), (r0, 15, 25, .ref zh), (r0, 15, 27, .ref zp), (r0, 15, 0, .ref zs), (r0, 15, 1, .ref zn), (r0, 15, 2, .ref za), (r0, 15, 3, .ref zb), (r0, 15, 4, .ref zc), (r0, 15, 14, .ref zy)] [(zg, 161, 46, ca 1, fg), (zh, 159, 46, ca 1, fh), (zp, 162, 368, ca 1, fp), (zs, 150, 120000, ca 1, C.s), (zn, 151, 120000, ca 1, C.n), (za, 152, 120000, ca 1, C.a), (zb, 153, 120000, ca 1, C.b), (zc, 154, 120000, ca 1, C.c), (zy, 165, 16, ca 1, C.y)] [] H_34 locs_34 := ((hh_31.call hb_341 hb_342 hb_343 hb_344 hS_34 rfl (L1 := [(r0, 15, 34, .int qu_29), (r0, 15, 5, .int pn), (r0, 15, 11, .int py), (r0, 15, 21, .int pg), (r0, 15, 22, .ref zg), (r0, 15, 25, .ref zh), (r0, 15, 27, .ref zp), (r0, 15, 0, .ref zs), (r0, 15, 1, .ref zn), (r0, 15, 2, .ref za), (r0, 15, 3, .ref zb), (r0, 15, 4, .ref zc), (r0, 15, 14, .ref zy)]) [0, 1, 2, 3, 4, 5, 6, 7, 8, 9, 10, 11, 12] rfl rfl (M1 := [(zg, 161, 46, ca 1, fg), (zh, 159, 46, ca 1, fh), (zp, 162, 368, ca 1, fp), (zs, 150, 120000, ca 1, C.s), (zn, 151, 120000, ca 1, C.n), (za, 152, 120000, ca 1, C.a), (zb, 153, 120000, ca 1, C.b), (zc, 154, 120000, ca 1, C.c), (zy, 165, 16, ca 1, C.y)]) [0, 1, 2, 3, 4, 5, 6, 7, 8] rfl rfl (I1 := []) [] rfl rfl).more hb_345)
      clear hh_31 ht_34 hvm_34 hz_34 hk_34 hS_34 hb_341 hb_342 hb_343 hb_344 hb_345
      rw [hqz_33] at hr_35
      refine lv_aload_n hx hb dX13_rewrite_56 rfl (lv_at hl 1 rfl) ?_
      refine lv_aload_n hx hb dX13_rewrite_57 rfl (lv_at hl 1 rfl) ?_
      refine j7_read hx hb hown hK (C := RX13) (T := TX13) (N := 50) rfl hly_15_2 hlk_19 (hh_34.at 9 rfl) dX13_rewrite_58 ?_
      refine lv_iload_n hx hb dX13_rewrite_61 rfl (lv_at hl 2 rfl) ?_
      refine j7_ialdM hx hb hK hh_34 hB152 1 rfl (by decide) hg_za (x := a1.toInt) (rfl) (by omega) (j := 5) rfl dX13_rewrite_62 (fun z_36 ez_36 (hz_36 : True) => ?_)
      have hqz_36 : z_36.toInt = jSo C.a (a1.toInt) := by unfold jSo; rw [ez_36]
      refine va_calli (A0 := jA base) (H0 := s.heap) (va_runV (As := [.int z_36]) (rest := [.int r_35, .int r_5, .int r_32]) ⟨hx, hb, hml, hown, hts⟩ (aX13_size l dC dI ca base B hB hAp hB15 hB150 hB151 hB152 hB153 hB154 hB165 1600 G0 H_34 r0 z_36 zs zn za zb zc zy C) (cwV 1 hts (jgV (jWr_65 _ (List.mem_of_getElem? (i := 11) rfl)) (jWr_65 _ (List.mem_of_getElem? (i := 12) rfl)) (jWr_65 _ (List.mem_of_getElem? (i := 13) rfl)) (jWr_12 _ (List.mem_of_getElem? (i := 12) rfl)) (jWr_65 _ (List.mem_of_getElem? (i := 14) rfl))) rfl rfl rfl (by decide +kernel) ⟨by rw [← hR]; exact Nat.le_of_ble_eq_true rfl, by rw [← hR]; exact Nat.le_of_ble_eq_true rfl⟩) ⟨fun a U g mk q => by obtain ⟨q0, q1, q2, qK, q10, q11, q12, q13, q14, q15, q16, q17, q18, q19⟩ := q; exact ⟨q0, q1, q2, jG.calling g mk a qK, q10, q11, q12, q13, q14, q15, q16, q17, q18, q19⟩, hh_34.recv (C := RX13) (T := TX13) (N := 50) hB15 rfl (by decide) hg_r0 hK, fun U hU hW => ⟨rfl, hU, hh_34.2.1, hG.step hW hU hh_34.1, hg_r0, hg_zs, hg_zn, hg_za, hg_zb, hg_zc, hg_zy, (hh_34.2.2.1.sub (L1 := [(r0, 15, 0, .ref zs), (r0, 15, 1, .ref zn), (r0, 15, 2, .ref za), (r0, 15, 3, .ref zb), (r0, 15, 4, .ref zc), (r0, 15, 14, .ref zy)]) [7, 8, 9, 10, 11, 12] rfl), (hh_34.2.2.2.2.2.2.2.1.sub (L1 := [(zs, 150, 120000, ca 1, C.s), (zn, 151, 120000, ca 1, C.n), (za, 152, 120000, ca 1, C.a), (zb, 153, 120000, ca 1, C.b), (zc, 154, 120000, ca 1, C.c), (zy, 165, 16, ca 1, C.y)]) [3, 4, 5, 6, 7, 8] rfl), ⟨(by first | assumption | (rw [hqz_36]; exact ((k2.1.1.mono (d1 := 1600) (by omega) (Int.le_refl _)).tr (by omega) (by omega))) | (rw [hqz_36]; omega) | omega), (by first | omega | rfl | assumption | (rw [hqz_36]; exact ((k2.1.1.mono (d1 := 1600) (by omega) (Int.le_refl _)).tr (by omega) (by omega))) | (rw [hqz_36]; omega)), (by first | omega | rfl | assumption | (rw [hqz_36]; exact ((k2.1.1.mono (d1 := 1600) (by omega) (Int.le_refl _)).tr (by omega) (by omega))) | (rw [hqz_36]; omega))⟩⟩⟩ rfl rfl hl.1 rfl (lv_room (Nat.le_of_ble_eq_true rfl)) dX13_rewrite_63 ⟨Nat.zero_le _, Nat.zero_le _⟩) hh_34.1 (fun q _ h => h) (fun q h => h) (fun r_38 u_37 t_37 H_37 locs_37 ht_37 hvm_37 hr_38 hb_37 hz_37 hk_37 hS_37 => ?_)
      rw [ht_37] at hb_37
      obtain ⟨hb_371, hb_372, hb_373, hb_374, hb_375⟩ := hb_37
      have hh_37 : jSt (dC, dI) B base G0 G0 EX13_rewrite s.heap 0 0 [(r0, 15, 34, .int qu_29), (r0, 15, 5, .int pn), (r0, 15, 11, .int py), (r0, 15, 21, .int pg), (r0, 15, 22, .ref zg), (r0, 15, 25, .ref zh), (r0, 15, 27, .ref zp), (r0, 15, 0, .ref zs), (r0, 15, 1, .ref zn), (r0, 15, 2, .ref za), (r0, 15, 3, .ref zb), (r0, 15, 4, .ref zc), (r0, 15, 14, .ref zy)] [(zg, 161, 46, ca 1, fg), (zh, 159, 46, ca 1, fh), (zp, 162, 368, ca 1, fp), (zs, 150, 120000, ca 1, C.s), (zn, 151, 120000, ca 1, C.n), (za, 152, 120000, ca 1, C.a), (zb, 153, 120000, ca 1, C.b), (zc, 154, 120000, ca 1, C.c), (zy, 165, 16, ca 1, C.y)] [] H_37 locs_37 := ((hh_34.call hb_371 hb_372 hb_373 hb_374 hS_37 rfl (L1 := [(r0, 15, 34, .int qu_29), (r0, 15, 5, .int pn), (r0, 15, 11, .int py), (r0, 15, 21, .int pg), (r0, 15, 22, .ref zg), (r0, 15, 25, .ref zh), (r0, 15, 27, .ref zp), (r0, 15, 0, .ref zs), (r0, 15, 1, .ref zn), (r0, 15, 2, .ref za), (r0, 15, 3, .ref zb), (r0, 15, 4, .ref zc), (r0, 15, 14, .ref zy)]) [0, 1, 2, 3, 4, 5, 6, 7, 8, 9, 10, 11, 12] rfl rfl (M1 := [(zg, 161, 46, ca 1, fg), (zh, 159, 46, ca 1, fh), (zp, 162, 368, ca 1, fp), (zs, 150, 120000, ca 1, C.s), (zn, 151, 120000, ca 1, C.n), (za, 152, 120000, ca 1, C.a), (zb, 153, 120000, ca 1, C.b), (zc, 154, 120000, ca 1, C.c), (zy, 165, 16, ca 1, C.y)]) [0, 1, 2, 3, 4, 5, 6, 7, 8] rfl rfl (I1 := []) [] rfl rfl).more hb_375)
      clear hh_34 ht_37 hvm_37 hz_37 hk_37 hS_37 hb_371 hb_372 hb_373 hb_374 hb_375
      rw [hqz_36] at hr_38
      refine lv_isub hx hb dX13_rewrite_66 ?_
      refine lv_topi (fun z_39 ez_39 => ?_)
      have hz_39 : z_39.toInt = r_35.toInt - r_38.toInt := by rw [ez_39]; exact jb_isub2 (rfl) (rfl) (by omega)
      refine lv_imul hx hb dX13_rewrite_67 ?_
      refine lv_topi (fun z_40 ez_40 => ?_)
      have hmz_40 := jMulB (a := r_5.toInt) (b := z_39.toInt) (by omega) (by omega)
      have hmm : r_5.toInt * z_39.toInt = jCn C (jSo C.a a1.toInt) a2.toInt * (jsz C (jSo C.b a1.toInt) - jsz C (jSo C.a a1.toInt)) := by rw [hr_5, show z_39.toInt = jsz C (jSo C.b a1.toInt) - jsz C (jSo C.a a1.toInt) by omega]
      have hz_40 : z_40.toInt = r_5.toInt * z_39.toInt := by rw [ez_40]; exact jb_imul2 (rfl) (rfl) (by omega)
      refine lv_iadd hx hb dX13_rewrite_68 ?_
      refine lv_topi (fun z_41 ez_41 => ?_)
      have hz_41 : z_41.toInt = r_32.toInt + z_40.toInt := by rw [ez_41]; exact jb_iadd2 (rfl) (rfl) (by omega)
      refine lv_bipush (v := 80) hx hb dX13_rewrite_69 (by decide) ?_
      refine lv_icmp_le (tgt := 80) hx hb dX13_rewrite_71 (by decide) (fun c_42 => ?_) (fun c_42 => ?_)
      · skip
        have c_42' : z_41.toInt ≤ 80 := jb_le (rfl) ((by decide)) c_42
        refine lv_aload_n hx hb dX13_rewrite_80 rfl (lv_at hl 1 rfl) ?_
        refine j7_read hx hb hown hK (C := RX13) (T := TX13) (N := 50) rfl hly_15_34 hlk_221 (hh_37.at 0 rfl) dX13_rewrite_81 ?_
        refine lv_if_ne (tgt := 110) hx hb dX13_rewrite_84 (by decide) (fun c_43 => ?_) (fun c_43 => ?_)
        · skip
          have c_43' : qu_29.toInt ≠ 0 := jb_ne (rfl) ((by decide)) c_43
          rw [hQ]
          exact W.vret hx hb hr (fun t ht hW => ⟨⟨(pn, qu_29, fg, C), rfl, by (try dsimp only); exact ⟨by omega, by omega, by omega, by omega, jAgK.rf _ _, hp0⟩, ⟨hh_37.rt (M1 := [(r0, 15, 5, .int pn), (r0, 15, 34, .int qu_29)]) [1, 0] rfl ht, by rw [ht]; exact hh_37.2.2.2.2.2.2.2.1.sub [0, 3, 4, 5, 6, 7, 8] rfl⟩⟩, by rw [ht]; try exact hh_37.1.1, fun q h9 hq => by rw [ht]; try exact hh_37.1.2.1 q h9 hq⟩) hh_37.1.2.2 dX13_rewrite_110
        · skip
          have c_43' : qu_29.toInt = 0 := jb_ne_n (rfl) ((by decide)) c_43
          exact (by omega : False).elim
      · skip
        have c_42' : z_41.toInt > 80 := jb_le_n (rfl) ((by decide)) c_42
        refine lv_aload_n hx hb dX13_rewrite_74 rfl (lv_at hl 1 rfl) ?_
        refine lv_bipush (v := 9) hx hb dX13_rewrite_75 (by decide) ?_
        refine va_callv (A0 := jA base) (H0 := s.heap) (va_runV (As := [.int 9]) (rest := []) ⟨hx, hb, hml, hown, hts⟩ (uX13_failsK l dC dI ca base B hB hAp hB15 G0 H_37 r0 9 qu_29) (cwV 1 hts (jgV (jWr_64 _ (List.mem_of_getElem? (i := 19) rfl)) (jWr_64 _ (List.mem_of_getElem? (i := 20) rfl)) (jWr_64 _ (List.mem_of_getElem? (i := 21) rfl)) (jWr_12 _ (List.mem_of_getElem? (i := 12) rfl)) (jWr_64 _ (List.mem_of_getElem? (i := 22) rfl))) rfl rfl rfl (by decide +kernel) ⟨by rw [← hR]; exact Nat.le_of_ble_eq_true rfl, by rw [← hR]; exact Nat.le_of_ble_eq_true rfl⟩) ⟨fun a U g mk q => by obtain ⟨q0, q1, q2, qK, q10, q11, q12⟩ := q; exact ⟨q0, q1, q2, jG.calling g mk a qK, q10, q11, q12⟩, hh_37.recv (C := RX13) (T := TX13) (N := 50) hB15 rfl (by decide) hg_r0 hK, fun U hU hW => ⟨rfl, hU, hh_37.2.1, hG.step hW hU hh_37.1, hg_r0, (hh_37.2.2.1.sub (L1 := [(r0, 15, 34, .int qu_29)]) [0] rfl), by first | omega | (refine ⟨?_, ?_, ?_, ?_⟩ <;> (first | omega | rfl | assumption | decide | exact Or.inl rfl | exact Or.inr rfl | (simp only; omega)))⟩⟩ rfl rfl hl.1 rfl (lv_room (Nat.le_of_ble_eq_true rfl)) dX13_rewrite_77 ⟨Nat.zero_le _, Nat.zero_le _⟩) hh_37.1 (fun q _ h => h) (fun q h => h) (fun u_44 t_44 H_44 locs_44 ht_44 hvm_44 hr_45 hb_44 hz_44 hk_44 hS_44 => ?_)
        obtain ⟨qu_44, rfl⟩ : ∃ z, z = u_44 := ⟨_, rfl⟩
        rw [ht_44] at hb_44
        obtain ⟨hb_441, hb_442, hb_443, hb_444, hb_445⟩ := hb_44
        have hh_44 : jSt (dC, dI) B base G0 G0 EX13_rewrite s.heap 0 0 [(r0, 15, 34, .int qu_44), (r0, 15, 5, .int pn), (r0, 15, 11, .int py), (r0, 15, 21, .int pg), (r0, 15, 22, .ref zg), (r0, 15, 25, .ref zh), (r0, 15, 27, .ref zp), (r0, 15, 0, .ref zs), (r0, 15, 1, .ref zn), (r0, 15, 2, .ref za), (r0, 15, 3, .ref zb), (r0, 15, 4, .ref zc), (r0, 15, 14, .ref zy)] [(zg, 161, 46, ca 1, fg), (zh, 159, 46, ca 1, fh), (zp, 162, 368, ca 1, fp), (zs, 150, 120000, ca 1, C.s), (zn, 151, 120000, ca 1, C.n), (za, 152, 120000, ca 1, C.a), (zb, 153, 120000, ca 1, C.b), (zc, 154, 120000, ca 1, C.c), (zy, 165, 16, ca 1, C.y)] [] H_44 locs_44 := ((hh_37.call hb_441 hb_442 hb_443 hb_444 hS_44 rfl (L1 := [(r0, 15, 5, .int pn), (r0, 15, 11, .int py), (r0, 15, 21, .int pg), (r0, 15, 22, .ref zg), (r0, 15, 25, .ref zh), (r0, 15, 27, .ref zp), (r0, 15, 0, .ref zs), (r0, 15, 1, .ref zn), (r0, 15, 2, .ref za), (r0, 15, 3, .ref zb), (r0, 15, 4, .ref zc), (r0, 15, 14, .ref zy)]) [1, 2, 3, 4, 5, 6, 7, 8, 9, 10, 11, 12] rfl rfl (M1 := [(zg, 161, 46, ca 1, fg), (zh, 159, 46, ca 1, fh), (zp, 162, 368, ca 1, fp), (zs, 150, 120000, ca 1, C.s), (zn, 151, 120000, ca 1, C.n), (za, 152, 120000, ca 1, C.a), (zb, 153, 120000, ca 1, C.b), (zc, 154, 120000, ca 1, C.c), (zy, 165, 16, ca 1, C.y)]) [0, 1, 2, 3, 4, 5, 6, 7, 8] rfl rfl (I1 := []) [] rfl rfl).more hb_445)
        clear hh_37 ht_44 hvm_44 hz_44 hk_44 hS_44 hb_441 hb_442 hb_443 hb_444 hb_445
        obtain ⟨hr_45_0, hr_45_1, hr_45_2, hr_45_3⟩ := hr_45
        refine lv_aload_n hx hb dX13_rewrite_80 rfl (lv_at hl 1 rfl) ?_
        refine j7_read hx hb hown hK (C := RX13) (T := TX13) (N := 50) rfl hly_15_34 hlk_221 (hh_44.at 0 rfl) dX13_rewrite_81 ?_
        refine lv_if_ne (tgt := 110) hx hb dX13_rewrite_84 (by decide) (fun c_46 => ?_) (fun c_46 => ?_)
        · skip
          have c_46' : qu_44.toInt ≠ 0 := jb_ne (rfl) ((by decide)) c_46
          rw [hQ]
          exact W.vret hx hb hr (fun t ht hW => ⟨⟨(pn, qu_44, fg, C), rfl, by (try dsimp only); exact ⟨by omega, by omega, by omega, by omega, jAgK.rf _ _, hp0⟩, ⟨hh_44.rt (M1 := [(r0, 15, 5, .int pn), (r0, 15, 34, .int qu_44)]) [1, 0] rfl ht, by rw [ht]; exact hh_44.2.2.2.2.2.2.2.1.sub [0, 3, 4, 5, 6, 7, 8] rfl⟩⟩, by rw [ht]; try exact hh_44.1.1, fun q h9 hq => by rw [ht]; try exact hh_44.1.2.1 q h9 hq⟩) hh_44.1.2.2 dX13_rewrite_110
        · skip
          have c_46' : qu_44.toInt = 0 := jb_ne_n (rfl) ((by decide)) c_46
          exact (by omega : False).elim
  · skip
    have c_2' : z_1.toInt ≠ 6 := jb_eq_n (rfl) ((by decide)) c_2
    refine lv_aload_n hx hb dX13_rewrite_11 rfl (lv_at hl 0 rfl) ?_
    refine lv_bipush (v := 8) hx hb dX13_rewrite_12 (by decide) ?_
    refine va_callv (A0 := jA base) (H0 := s.heap) (va_runV (As := [.int 8]) (rest := []) ⟨hx, hb, hml, hown, hts⟩ (uX13_failsK l dC dI ca base B hB hAp hB15 G0 s.heap r0 8 pu) (cwV 1 hts (jgV (jWr_64 _ (List.mem_of_getElem? (i := 19) rfl)) (jWr_64 _ (List.mem_of_getElem? (i := 20) rfl)) (jWr_64 _ (List.mem_of_getElem? (i := 21) rfl)) (jWr_12 _ (List.mem_of_getElem? (i := 12) rfl)) (jWr_64 _ (List.mem_of_getElem? (i := 22) rfl))) rfl rfl rfl (by decide +kernel) ⟨by rw [← hR]; exact Nat.le_of_ble_eq_true rfl, by rw [← hR]; exact Nat.le_of_ble_eq_true rfl⟩) ⟨fun a U g mk q => by obtain ⟨q0, q1, q2, qK, q10, q11, q12⟩ := q; exact ⟨q0, q1, q2, jG.calling g mk a qK, q10, q11, q12⟩, hh.recv (C := RX13) (T := TX13) (N := 50) hB15 rfl (by decide) hg_r0 hK, fun U hU hW => ⟨rfl, hU, hh.2.1, hG.step hW hU hh.1, hg_r0, (hh.2.2.1.sub (L1 := [(r0, 15, 34, .int pu)]) [1] rfl), by first | omega | (refine ⟨?_, ?_, ?_, ?_⟩ <;> (first | omega | rfl | assumption | decide | exact Or.inl rfl | exact Or.inr rfl | (simp only; omega)))⟩⟩ rfl rfl hl.1 rfl (lv_room (Nat.le_of_ble_eq_true rfl)) dX13_rewrite_14 ⟨Nat.zero_le _, Nat.zero_le _⟩) hh.1 (fun q _ h => h) (fun q h => h) (fun u_47 t_47 H_47 locs_47 ht_47 hvm_47 hr_48 hb_47 hz_47 hk_47 hS_47 => ?_)
    obtain ⟨qu_47, rfl⟩ : ∃ z, z = u_47 := ⟨_, rfl⟩
    rw [ht_47] at hb_47
    obtain ⟨hb_471, hb_472, hb_473, hb_474, hb_475⟩ := hb_47
    have hh_47 : jSt (dC, dI) B base G0 G0 EX13_rewrite s.heap 0 0 [(r0, 15, 34, .int qu_47), (r0, 15, 5, .int pn), (r0, 15, 11, .int py), (r0, 15, 21, .int pg), (r0, 15, 22, .ref zg), (r0, 15, 25, .ref zh), (r0, 15, 27, .ref zp), (r0, 15, 0, .ref zs), (r0, 15, 1, .ref zn), (r0, 15, 2, .ref za), (r0, 15, 3, .ref zb), (r0, 15, 4, .ref zc), (r0, 15, 14, .ref zy)] [(zg, 161, 46, ca 1, fg), (zh, 159, 46, ca 1, fh), (zp, 162, 368, ca 1, fp), (zs, 150, 120000, ca 1, C.s), (zn, 151, 120000, ca 1, C.n), (za, 152, 120000, ca 1, C.a), (zb, 153, 120000, ca 1, C.b), (zc, 154, 120000, ca 1, C.c), (zy, 165, 16, ca 1, C.y)] [] H_47 locs_47 := ((hh.call hb_471 hb_472 hb_473 hb_474 hS_47 rfl (L1 := [(r0, 15, 5, .int pn), (r0, 15, 11, .int py), (r0, 15, 21, .int pg), (r0, 15, 22, .ref zg), (r0, 15, 25, .ref zh), (r0, 15, 27, .ref zp), (r0, 15, 0, .ref zs), (r0, 15, 1, .ref zn), (r0, 15, 2, .ref za), (r0, 15, 3, .ref zb), (r0, 15, 4, .ref zc), (r0, 15, 14, .ref zy)]) [0, 2, 3, 4, 5, 6, 7, 8, 9, 10, 11, 12] rfl rfl (M1 := [(zg, 161, 46, ca 1, fg), (zh, 159, 46, ca 1, fh), (zp, 162, 368, ca 1, fp), (zs, 150, 120000, ca 1, C.s), (zn, 151, 120000, ca 1, C.n), (za, 152, 120000, ca 1, C.a), (zb, 153, 120000, ca 1, C.b), (zc, 154, 120000, ca 1, C.c), (zy, 165, 16, ca 1, C.y)]) [0, 1, 2, 3, 4, 5, 6, 7, 8] rfl rfl (I1 := []) [] rfl rfl).more hb_475)
    clear hh ht_47 hvm_47 hz_47 hk_47 hS_47 hb_471 hb_472 hb_473 hb_474 hb_475
    obtain ⟨hr_48_0, hr_48_1, hr_48_2, hr_48_3⟩ := hr_48
    rw [hQ]
    exact W.vret hx hb hr (fun t ht hW => ⟨⟨(pn, qu_47, fg, C), rfl, by (try dsimp only); exact ⟨by omega, by omega, by omega, by omega, jAgK.rf _ _, hp0⟩, ⟨hh_47.rt (M1 := [(r0, 15, 5, .int pn), (r0, 15, 34, .int qu_47)]) [1, 0] rfl ht, by rw [ht]; exact hh_47.2.2.2.2.2.2.2.1.sub [0, 3, 4, 5, 6, 7, 8] rfl⟩⟩, by rw [ht]; try exact hh_47.1.1, fun q h9 hq => by rw [ht]; try exact hh_47.1.2.1 q h9 hq⟩) hh_47.1.2.2 dX13_rewrite_17
end
