theorem dX14_requested_0 : decode cX14_requested 0 = .ok (.aload_n 0, 1) := by decide +kernel
theorem dX14_requested_1 : decode cX14_requested 1 = .ok (.iload_n 1, 1) := by decide +kernel
theorem dX14_requested_2 : decode cX14_requested 2 = .ok (.ldc_w 458, 3) := by decide +kernel
theorem dX14_requested_5 : decode cX14_requested 5 = .ok (.invokevirtual 442, 3) := by decide +kernel
theorem dX14_requested_8 : decode cX14_requested 8 = .ok (.istore_n 3, 1) := by decide +kernel
theorem dX14_requested_9 : decode cX14_requested 9 = .ok (.aload_n 0, 1) := by decide +kernel
theorem dX14_requested_10 : decode cX14_requested 10 = .ok (.getfield 460, 3) := by decide +kernel
theorem dX14_requested_13 : decode cX14_requested 13 = .ok (.ifCond .ne 17, 3) := by decide +kernel
theorem dX14_requested_16 : decode cX14_requested 16 = .ok (.iload_n 3, 1) := by decide +kernel
theorem dX14_requested_17 : decode cX14_requested 17 = .ok (.ifCond .ne 13, 3) := by decide +kernel
theorem dX14_requested_20 : decode cX14_requested 20 = .ok (.aload_n 0, 1) := by decide +kernel
theorem dX14_requested_21 : decode cX14_requested 21 = .ok (.sipush (-32002), 3) := by decide +kernel
theorem dX14_requested_24 : decode cX14_requested 24 = .ok (.invokevirtual 425, 3) := by decide +kernel
theorem dX14_requested_27 : decode cX14_requested 27 = .ok (.goto 137, 3) := by decide +kernel
theorem dX14_requested_30 : decode cX14_requested 30 = .ok (.aload_n 0, 1) := by decide +kernel
theorem dX14_requested_31 : decode cX14_requested 31 = .ok (.getfield 463, 3) := by decide +kernel
theorem dX14_requested_34 : decode cX14_requested 34 = .ok (.ifCond .ne 14, 3) := by decide +kernel
theorem dX14_requested_37 : decode cX14_requested 37 = .ok (.aload_n 0, 1) := by decide +kernel
theorem dX14_requested_38 : decode cX14_requested 38 = .ok (.getfield 460, 3) := by decide +kernel
theorem dX14_requested_41 : decode cX14_requested 41 = .ok (.ifCond .eq 17, 3) := by decide +kernel
theorem dX14_requested_44 : decode cX14_requested 44 = .ok (.iload_n 3, 1) := by decide +kernel
theorem dX14_requested_45 : decode cX14_requested 45 = .ok (.ifCond .eq 13, 3) := by decide +kernel
theorem dX14_requested_48 : decode cX14_requested 48 = .ok (.aload_n 0, 1) := by decide +kernel
theorem dX14_requested_49 : decode cX14_requested 49 = .ok (.sipush (-32600), 3) := by decide +kernel
theorem dX14_requested_52 : decode cX14_requested 52 = .ok (.invokevirtual 425, 3) := by decide +kernel
theorem dX14_requested_55 : decode cX14_requested 55 = .ok (.goto 109, 3) := by decide +kernel
theorem dX14_requested_58 : decode cX14_requested 58 = .ok (.iload_n 3, 1) := by decide +kernel
theorem dX14_requested_59 : decode cX14_requested 59 = .ok (.ifCond .eq 26, 3) := by decide +kernel
theorem dX14_requested_62 : decode cX14_requested 62 = .ok (.aload_n 0, 1) := by decide +kernel
theorem dX14_requested_63 : decode cX14_requested 63 = .ok (.iconst 1, 1) := by decide +kernel
theorem dX14_requested_64 : decode cX14_requested 64 = .ok (.putfield 460, 3) := by decide +kernel
theorem dX14_requested_67 : decode cX14_requested 67 = .ok (.aload_n 0, 1) := by decide +kernel
theorem dX14_requested_68 : decode cX14_requested 68 = .ok (.invokevirtual 466, 3) := by decide +kernel
theorem dX14_requested_71 : decode cX14_requested 71 = .ok (.aload_n 0, 1) := by decide +kernel
theorem dX14_requested_72 : decode cX14_requested 72 = .ok (.ldc_w 469, 3) := by decide +kernel
theorem dX14_requested_75 : decode cX14_requested 75 = .ok (.invokevirtual 189, 3) := by decide +kernel
theorem dX14_requested_78 : decode cX14_requested 78 = .ok (.aload_n 0, 1) := by decide +kernel
theorem dX14_requested_79 : decode cX14_requested 79 = .ok (.invokevirtual 422, 3) := by decide +kernel
theorem dX14_requested_82 : decode cX14_requested 82 = .ok (.goto 82, 3) := by decide +kernel
theorem dX14_requested_85 : decode cX14_requested 85 = .ok (.aload_n 0, 1) := by decide +kernel
theorem dX14_requested_86 : decode cX14_requested 86 = .ok (.iload_n 1, 1) := by decide +kernel
theorem dX14_requested_87 : decode cX14_requested 87 = .ok (.ldc_w 471, 3) := by decide +kernel
theorem dX14_requested_90 : decode cX14_requested 90 = .ok (.invokevirtual 442, 3) := by decide +kernel
theorem dX14_requested_93 : decode cX14_requested 93 = .ok (.ifCond .eq 26, 3) := by decide +kernel
theorem dX14_requested_96 : decode cX14_requested 96 = .ok (.aload_n 0, 1) := by decide +kernel
theorem dX14_requested_97 : decode cX14_requested 97 = .ok (.iconst 1, 1) := by decide +kernel
theorem dX14_requested_98 : decode cX14_requested 98 = .ok (.putfield 463, 3) := by decide +kernel
theorem dX14_requested_101 : decode cX14_requested 101 = .ok (.aload_n 0, 1) := by decide +kernel
theorem dX14_requested_102 : decode cX14_requested 102 = .ok (.invokevirtual 466, 3) := by decide +kernel
theorem dX14_requested_105 : decode cX14_requested 105 = .ok (.aload_n 0, 1) := by decide +kernel
theorem dX14_requested_106 : decode cX14_requested 106 = .ok (.ldc_w 307, 3) := by decide +kernel
theorem dX14_requested_109 : decode cX14_requested 109 = .ok (.invokevirtual 189, 3) := by decide +kernel
theorem dX14_requested_112 : decode cX14_requested 112 = .ok (.aload_n 0, 1) := by decide +kernel
theorem dX14_requested_113 : decode cX14_requested 113 = .ok (.invokevirtual 422, 3) := by decide +kernel
theorem dX14_requested_116 : decode cX14_requested 116 = .ok (.goto 48, 3) := by decide +kernel
theorem dX14_requested_119 : decode cX14_requested 119 = .ok (.aload_n 0, 1) := by decide +kernel
theorem dX14_requested_120 : decode cX14_requested 120 = .ok (.iload_n 1, 1) := by decide +kernel
theorem dX14_requested_121 : decode cX14_requested 121 = .ok (.ldc_w 473, 3) := by decide +kernel
theorem dX14_requested_124 : decode cX14_requested 124 = .ok (.invokevirtual 442, 3) := by decide +kernel
theorem dX14_requested_127 : decode cX14_requested 127 = .ok (.ifCond .eq 11, 3) := by decide +kernel
theorem dX14_requested_130 : decode cX14_requested 130 = .ok (.aload_n 0, 1) := by decide +kernel
theorem dX14_requested_131 : decode cX14_requested 131 = .ok (.iload_n 2, 1) := by decide +kernel
theorem dX14_requested_132 : decode cX14_requested 132 = .ok (.invokevirtual 475, 3) := by decide +kernel
theorem dX14_requested_135 : decode cX14_requested 135 = .ok (.goto 29, 3) := by decide +kernel
theorem dX14_requested_138 : decode cX14_requested 138 = .ok (.aload_n 0, 1) := by decide +kernel
theorem dX14_requested_139 : decode cX14_requested 139 = .ok (.iload_n 1, 1) := by decide +kernel
theorem dX14_requested_140 : decode cX14_requested 140 = .ok (.ldc_w 478, 3) := by decide +kernel
theorem dX14_requested_143 : decode cX14_requested 143 = .ok (.invokevirtual 442, 3) := by decide +kernel
theorem dX14_requested_146 : decode cX14_requested 146 = .ok (.ifCond .eq 11, 3) := by decide +kernel
theorem dX14_requested_149 : decode cX14_requested 149 = .ok (.aload_n 0, 1) := by decide +kernel
theorem dX14_requested_150 : decode cX14_requested 150 = .ok (.iload_n 2, 1) := by decide +kernel
theorem dX14_requested_151 : decode cX14_requested 151 = .ok (.invokevirtual 480, 3) := by decide +kernel
theorem dX14_requested_154 : decode cX14_requested 154 = .ok (.goto 10, 3) := by decide +kernel
theorem dX14_requested_157 : decode cX14_requested 157 = .ok (.aload_n 0, 1) := by decide +kernel
theorem dX14_requested_158 : decode cX14_requested 158 = .ok (.sipush (-32601), 3) := by decide +kernel
theorem dX14_requested_161 : decode cX14_requested 161 = .ok (.invokevirtual 425, 3) := by decide +kernel
theorem dX14_requested_164 : decode cX14_requested 164 = .ok (.return_, 1) := by decide +kernel
theorem dX14_askStatement_0 : decode cX14_askStatement 0 = .ok (.aload_n 0, 1) := by decide +kernel
theorem dX14_askStatement_1 : decode cX14_askStatement 1 = .ok (.aload_n 0, 1) := by decide +kernel
theorem dX14_askStatement_2 : decode cX14_askStatement 2 = .ok (.aload_n 0, 1) := by decide +kernel
theorem dX14_askStatement_3 : decode cX14_askStatement 3 = .ok (.iload_n 1, 1) := by decide +kernel
theorem dX14_askStatement_4 : decode cX14_askStatement 4 = .ok (.ldc_w 514, 3) := by decide +kernel
theorem dX14_askStatement_7 : decode cX14_askStatement 7 = .ok (.invokevirtual 430, 3) := by decide +kernel
theorem dX14_askStatement_10 : decode cX14_askStatement 10 = .ok (.ldc_w 516, 3) := by decide +kernel
theorem dX14_askStatement_13 : decode cX14_askStatement 13 = .ok (.invokevirtual 430, 3) := by decide +kernel
theorem dX14_askStatement_16 : decode cX14_askStatement 16 = .ok (.invokevirtual 520, 3) := by decide +kernel
theorem dX14_askStatement_19 : decode cX14_askStatement 19 = .ok (.astore_n 2, 1) := by decide +kernel
theorem dX14_askStatement_20 : decode cX14_askStatement 20 = .ok (.aload_n 0, 1) := by decide +kernel
theorem dX14_askStatement_21 : decode cX14_askStatement 21 = .ok (.iload_n 1, 1) := by decide +kernel
theorem dX14_askStatement_22 : decode cX14_askStatement 22 = .ok (.ldc_w 707, 3) := by decide +kernel
theorem dX14_askStatement_25 : decode cX14_askStatement 25 = .ok (.invokevirtual 430, 3) := by decide +kernel
theorem dX14_askStatement_28 : decode cX14_askStatement 28 = .ok (.istore_n 3, 1) := by decide +kernel
theorem dX14_askStatement_29 : decode cX14_askStatement 29 = .ok (.aload_n 2, 1) := by decide +kernel
theorem dX14_askStatement_30 : decode cX14_askStatement 30 = .ok (.ifnull 11, 3) := by decide +kernel
theorem dX14_askStatement_33 : decode cX14_askStatement 33 = .ok (.aload_n 0, 1) := by decide +kernel
theorem dX14_askStatement_34 : decode cX14_askStatement 34 = .ok (.iload_n 3, 1) := by decide +kernel
theorem dX14_askStatement_35 : decode cX14_askStatement 35 = .ok (.invokevirtual 368, 3) := by decide +kernel
theorem dX14_askStatement_38 : decode cX14_askStatement 38 = .ok (.ifCond .ne 13, 3) := by decide +kernel
theorem dX14_askStatement_41 : decode cX14_askStatement 41 = .ok (.aload_n 0, 1) := by decide +kernel
theorem dX14_askStatement_42 : decode cX14_askStatement 42 = .ok (.sipush (-32602), 3) := by decide +kernel
theorem dX14_askStatement_45 : decode cX14_askStatement 45 = .ok (.invokevirtual 425, 3) := by decide +kernel
theorem dX14_askStatement_48 : decode cX14_askStatement 48 = .ok (.goto 151, 3) := by decide +kernel
theorem dX14_askStatement_51 : decode cX14_askStatement 51 = .ok (.aload_n 2, 1) := by decide +kernel
theorem dX14_askStatement_52 : decode cX14_askStatement 52 = .ok (.getfield 531, 3) := by decide +kernel
theorem dX14_askStatement_55 : decode cX14_askStatement 55 = .ok (.aload_n 2, 1) := by decide +kernel
theorem dX14_askStatement_56 : decode cX14_askStatement 56 = .ok (.getfield 587, 3) := by decide +kernel
theorem dX14_askStatement_59 : decode cX14_askStatement 59 = .ok (.if_icmp .ne 50, 3) := by decide +kernel
theorem dX14_askStatement_62 : decode cX14_askStatement 62 = .ok (.aload_n 0, 1) := by decide +kernel
theorem dX14_askStatement_63 : decode cX14_askStatement 63 = .ok (.invokevirtual 466, 3) := by decide +kernel
theorem dX14_askStatement_66 : decode cX14_askStatement 66 = .ok (.aload_n 0, 1) := by decide +kernel
theorem dX14_askStatement_67 : decode cX14_askStatement 67 = .ok (.aload_n 2, 1) := by decide +kernel
theorem dX14_askStatement_68 : decode cX14_askStatement 68 = .ok (.aload_n 2, 1) := by decide +kernel
theorem dX14_askStatement_69 : decode cX14_askStatement 69 = .ok (.getfield 587, 3) := by decide +kernel
theorem dX14_askStatement_72 : decode cX14_askStatement 72 = .ok (.invokevirtual 697, 3) := by decide +kernel
theorem dX14_askStatement_75 : decode cX14_askStatement 75 = .ok (.aload_n 0, 1) := by decide +kernel
theorem dX14_askStatement_76 : decode cX14_askStatement 76 = .ok (.aload_n 0, 1) := by decide +kernel
theorem dX14_askStatement_77 : decode cX14_askStatement 77 = .ok (.getfield 65, 3) := by decide +kernel
theorem dX14_askStatement_80 : decode cX14_askStatement 80 = .ok (.aload_n 0, 1) := by decide +kernel
theorem dX14_askStatement_81 : decode cX14_askStatement 81 = .ok (.getfield 52, 3) := by decide +kernel
theorem dX14_askStatement_84 : decode cX14_askStatement 84 = .ok (.iload_n 3, 1) := by decide +kernel
theorem dX14_askStatement_85 : decode cX14_askStatement 85 = .ok (.iaload, 1) := by decide +kernel
theorem dX14_askStatement_86 : decode cX14_askStatement 86 = .ok (.aload_n 0, 1) := by decide +kernel
theorem dX14_askStatement_87 : decode cX14_askStatement 87 = .ok (.getfield 55, 3) := by decide +kernel
theorem dX14_askStatement_90 : decode cX14_askStatement 90 = .ok (.iload_n 3, 1) := by decide +kernel
theorem dX14_askStatement_91 : decode cX14_askStatement 91 = .ok (.iaload, 1) := by decide +kernel
theorem dX14_askStatement_92 : decode cX14_askStatement 92 = .ok (.aload_n 0, 1) := by decide +kernel
theorem dX14_askStatement_93 : decode cX14_askStatement 93 = .ok (.getfield 52, 3) := by decide +kernel
theorem dX14_askStatement_96 : decode cX14_askStatement 96 = .ok (.iload_n 3, 1) := by decide +kernel
theorem dX14_askStatement_97 : decode cX14_askStatement 97 = .ok (.iaload, 1) := by decide +kernel
theorem dX14_askStatement_98 : decode cX14_askStatement 98 = .ok (.isub, 1) := by decide +kernel
theorem dX14_askStatement_99 : decode cX14_askStatement 99 = .ok (.invokevirtual 708, 3) := by decide +kernel
theorem dX14_askStatement_102 : decode cX14_askStatement 102 = .ok (.aload_n 0, 1) := by decide +kernel
theorem dX14_askStatement_103 : decode cX14_askStatement 103 = .ok (.invokevirtual 422, 3) := by decide +kernel
theorem dX14_askStatement_106 : decode cX14_askStatement 106 = .ok (.goto 93, 3) := by decide +kernel
theorem dX14_askStatement_109 : decode cX14_askStatement 109 = .ok (.aload_n 0, 1) := by decide +kernel
theorem dX14_askStatement_110 : decode cX14_askStatement 110 = .ok (.aload_n 2, 1) := by decide +kernel
theorem dX14_askStatement_111 : decode cX14_askStatement 111 = .ok (.iconst 0, 1) := by decide +kernel
theorem dX14_askStatement_112 : decode cX14_askStatement 112 = .ok (.aload_n 2, 1) := by decide +kernel
theorem dX14_askStatement_113 : decode cX14_askStatement 113 = .ok (.getfield 587, 3) := by decide +kernel
theorem dX14_askStatement_116 : decode cX14_askStatement 116 = .ok (.invokevirtual 703, 3) := by decide +kernel
theorem dX14_askStatement_119 : decode cX14_askStatement 119 = .ok (.ifCond .eq 80, 3) := by decide +kernel
theorem dX14_askStatement_122 : decode cX14_askStatement 122 = .ok (.aload_n 0, 1) := by decide +kernel
theorem dX14_askStatement_123 : decode cX14_askStatement 123 = .ok (.getfield 711, 3) := by decide +kernel
theorem dX14_askStatement_126 : decode cX14_askStatement 126 = .ok (.iconst 1, 1) := by decide +kernel
theorem dX14_askStatement_127 : decode cX14_askStatement 127 = .ok (.isub, 1) := by decide +kernel
theorem dX14_askStatement_128 : decode cX14_askStatement 128 = .ok (.istore 4, 2) := by decide +kernel
theorem dX14_askStatement_130 : decode cX14_askStatement 130 = .ok (.aload_n 0, 1) := by decide +kernel
theorem dX14_askStatement_131 : decode cX14_askStatement 131 = .ok (.getfield 116, 3) := by decide +kernel
theorem dX14_askStatement_134 : decode cX14_askStatement 134 = .ok (.iload 4, 2) := by decide +kernel
theorem dX14_askStatement_136 : decode cX14_askStatement 136 = .ok (.aload_n 0, 1) := by decide +kernel
theorem dX14_askStatement_137 : decode cX14_askStatement 137 = .ok (.getfield 55, 3) := by decide +kernel
theorem dX14_askStatement_140 : decode cX14_askStatement 140 = .ok (.iload_n 3, 1) := by decide +kernel
theorem dX14_askStatement_141 : decode cX14_askStatement 141 = .ok (.iaload, 1) := by decide +kernel
theorem dX14_askStatement_142 : decode cX14_askStatement 142 = .ok (.aload_n 0, 1) := by decide +kernel
theorem dX14_askStatement_143 : decode cX14_askStatement 143 = .ok (.getfield 52, 3) := by decide +kernel
theorem dX14_askStatement_146 : decode cX14_askStatement 146 = .ok (.iload_n 3, 1) := by decide +kernel
theorem dX14_askStatement_147 : decode cX14_askStatement 147 = .ok (.iaload, 1) := by decide +kernel
theorem dX14_askStatement_148 : decode cX14_askStatement 148 = .ok (.isub, 1) := by decide +kernel
theorem dX14_askStatement_149 : decode cX14_askStatement 149 = .ok (.iastore, 1) := by decide +kernel
theorem dX14_askStatement_150 : decode cX14_askStatement 150 = .ok (.iconst 0, 1) := by decide +kernel
theorem dX14_askStatement_151 : decode cX14_askStatement 151 = .ok (.istore 5, 2) := by decide +kernel
theorem dX14_askStatement_153 : decode cX14_askStatement 153 = .ok (.iload 5, 2) := by decide +kernel
theorem dX14_askStatement_155 : decode cX14_askStatement 155 = .ok (.aload_n 0, 1) := by decide +kernel
theorem dX14_askStatement_156 : decode cX14_askStatement 156 = .ok (.getfield 116, 3) := by decide +kernel
theorem dX14_askStatement_159 : decode cX14_askStatement 159 = .ok (.iload 4, 2) := by decide +kernel
theorem dX14_askStatement_161 : decode cX14_askStatement 161 = .ok (.iaload, 1) := by decide +kernel
theorem dX14_askStatement_162 : decode cX14_askStatement 162 = .ok (.if_icmp .ge 37, 3) := by decide +kernel
theorem dX14_askStatement_165 : decode cX14_askStatement 165 = .ok (.aload_n 0, 1) := by decide +kernel
theorem dX14_askStatement_166 : decode cX14_askStatement 166 = .ok (.getfield 113, 3) := by decide +kernel
theorem dX14_askStatement_169 : decode cX14_askStatement 169 = .ok (.sipush 3100, 3) := by decide +kernel
theorem dX14_askStatement_172 : decode cX14_askStatement 172 = .ok (.iload 4, 2) := by decide +kernel
theorem dX14_askStatement_174 : decode cX14_askStatement 174 = .ok (.imul, 1) := by decide +kernel
theorem dX14_askStatement_175 : decode cX14_askStatement 175 = .ok (.iload 5, 2) := by decide +kernel
theorem dX14_askStatement_177 : decode cX14_askStatement 177 = .ok (.iadd, 1) := by decide +kernel
theorem dX14_askStatement_178 : decode cX14_askStatement 178 = .ok (.aload_n 0, 1) := by decide +kernel
theorem dX14_askStatement_179 : decode cX14_askStatement 179 = .ok (.getfield 65, 3) := by decide +kernel
theorem dX14_askStatement_182 : decode cX14_askStatement 182 = .ok (.aload_n 0, 1) := by decide +kernel
theorem dX14_askStatement_183 : decode cX14_askStatement 183 = .ok (.getfield 52, 3) := by decide +kernel
theorem dX14_askStatement_186 : decode cX14_askStatement 186 = .ok (.iload_n 3, 1) := by decide +kernel
theorem dX14_askStatement_187 : decode cX14_askStatement 187 = .ok (.iaload, 1) := by decide +kernel
theorem dX14_askStatement_188 : decode cX14_askStatement 188 = .ok (.iload 5, 2) := by decide +kernel
theorem dX14_askStatement_190 : decode cX14_askStatement 190 = .ok (.iadd, 1) := by decide +kernel
theorem dX14_askStatement_191 : decode cX14_askStatement 191 = .ok (.iaload, 1) := by decide +kernel
theorem dX14_askStatement_192 : decode cX14_askStatement 192 = .ok (.iastore, 1) := by decide +kernel
theorem dX14_askStatement_193 : decode cX14_askStatement 193 = .ok (.iinc 5 1, 3) := by decide +kernel
theorem dX14_askStatement_196 : decode cX14_askStatement 196 = .ok (.goto (-43), 3) := by decide +kernel
theorem dX14_askStatement_199 : decode cX14_askStatement 199 = .ok (.return_, 1) := by decide +kernel
def EX14_isNamedP : List (Nat × Nat) := []
def EX14_statementOfP : List (Nat × Nat) := [(15, 46), (15, 49), (16, 6), (101, 0), (163, 0), (164, 0)]
def EX14_askStatement : List (Nat × Nat) := [(15, 5), (15, 7), (15, 10), (15, 11), (15, 15), (15, 18), (15, 19), (15, 20), (15, 21), (15, 30), (15, 31), (15, 32), (15, 33), (15, 34), (15, 36), (15, 38), (15, 39), (15, 40), (15, 41), (15, 42), (15, 46), (15, 49), (16, 3), (16, 4), (16, 6), (16, 48), (101, 0), (103, 0), (150, 0), (151, 0), (152, 0), (153, 0), (154, 0), (155, 0), (156, 0), (157, 0), (158, 0), (159, 0), (160, 0), (161, 0), (162, 0), (163, 0), (164, 0), (165, 0), (166, 0), (167, 0), (168, 0), (169, 0), (202, 0), (203, 0), (204, 0), (206, 0)]
def EX14_requested : List (Nat × Nat) := [(15, 5), (15, 7), (15, 10), (15, 11), (15, 15), (15, 18), (15, 19), (15, 20), (15, 21), (15, 30), (15, 31), (15, 32), (15, 33), (15, 34), (15, 36), (15, 38), (15, 39), (15, 40), (15, 41), (15, 42), (15, 46), (15, 49), (16, 3), (16, 4), (16, 6), (16, 34), (16, 35), (16, 48), (101, 0), (103, 0), (150, 0), (151, 0), (152, 0), (153, 0), (154, 0), (155, 0), (156, 0), (157, 0), (158, 0), (159, 0), (160, 0), (161, 0), (162, 0), (163, 0), (164, 0), (165, 0), (166, 0), (167, 0), (168, 0), (169, 0), (202, 0), (203, 0), (204, 0), (206, 0)]
def qtx2947 : String := match tables_1[2947]? with | some (Jvm.Cond.stringRef _ _ t) => t | _ => ""
set_option maxHeartbeats 4000000 in
set_option maxRecDepth 20000 in
theorem uX14_isNamedP (l : Launch) (dC : Nat → ClassId) (dI : Nat → Nat → Nat) (ca : Nat → ClassId) (base : Nat) (B : jF) (hB : jBok B) (hAp : jAp (dC, dI)) (hB15 : ∀ n G a H, B 15 n G a H ↔ jOb (dC, dI) 15 50 (F15 n G) a H) (hB16 : ∀ n G a H, B 16 n G a H ↔ jOb (dC, dI) 16 74 (F16 n G) a H) (hB127 : ∀ n G a H, B 127 n G a H ↔ jAr (dC, dI) (ca 1) (fun j z => True) n a H) (hB155 : ∀ n G a H, B 155 n G a H ↔ jAr (dC, dI) (ca 1) (fun j z => 0 ≤ z.toInt ∧ z.toInt ≤ 11990) n a H) (hB156 : ∀ n G a H, B 156 n G a H ↔ jAr (dC, dI) (ca 1) (fun j z => 0 ≤ z.toInt ∧ z.toInt ≤ 10) n a H) (hB166 : ∀ n G a H, B 166 n G a H ↔ jAr (dC, dI) (ca 1) (fun j z => True) n a H) (G0 : jT) (H0 : Heap) (r0 : Nat) (a1 : Int32) (r2 : Nat) (a3 : Int32) (a4 : Int32) (n2 : Nat) : Met l yX14_isNamed (jw yX14_isNamed cX14_isNamed 7 (some .boolean)) ({ frames := 0, cells := 0, slots := 0, locals := 0 }) (va_Pc [.ref r0, .int a1, .ref r2, .int a3, .int a4] (fun U => U.heap = H0 ∧ jX B base G0 [] H0 ∧ jG dC dI ca base U ∧ G0 r2 = some (127, n2) ∧ G0 r0 = some (16, 0) ∧ jP (dC, dI) G0 H0 [] ∧ 0 ≤ a1.toInt ∧ a1.toInt ≤ 1599 ∧ 0 ≤ a3.toInt ∧ a3.toInt + a4.toInt ≤ n2 ∧ n2 ≤ 200000)) (va_Qi (S := Unit) (fun r u => (r = 0 ∨ r = 1) ∧ (True)) (fun u t => jRt (dC, dI) B base G0 EX14_isNamedP H0 [] t.heap) (jA base)) 0 0 (jA base) := by
  refine Met.ofW (cc := cX14_isNamed) (maxL := 7) (ret := (some .boolean)) (by decide) rfl ?_
  intro p e s m args below meth c s₁ Bd hml hv
  obtain ⟨rfl, hH0, hX, hG, hg_r2, hg_r0, hP0, hp0, hp1, hp2, hp3, hp4⟩ := hv
  have hK := hG.1
  have hx := Bd.exec
  have hb := Bd.bytes
  have hr := Bd.returns
  have hts := atoms_spec (ws := (jw yX14_isNamed cX14_isNamed 7 (some .boolean))) Bd.pre
  have htw : ∀ w ∈ jWl, w.before _ s = true := fun w h => hts w (List.mem_cons_of_mem _ h)
  have hown : s.vm.findClass RX14 = some m.cls := findClass_of_methodNamed Bd.named
  have hlocks := Bd.notSynchronized
  obtain ⟨Q, hQ⟩ : ∃ Q, Q = MQ below (va_Qi (S := Unit) (fun r u => (r = 0 ∨ r = 1) ∧ (True)) (fun u t => jRt (dC, dI) B base G0 EX14_isNamedP H0 [] t.heap) (jA base)) ([.ref r0, .int a1, .ref r2, .int a3, .int a4] : List Value).toArray s 0 0 (jA base) := ⟨_, rfl⟩
  rw [← hQ]
  have hl := lv_entry ([.ref r0, .int a1, .ref r2, .int a3, .int a4]) (n := 7) (Nat.le_of_ble_eq_true rfl)
  rw [lg_entry_eq]
  generalize (lg_sl ([.ref r0, .int a1, .ref r2, .int a3, .int a4]) ++ List.replicate (7 - (lg_sl ([.ref r0, .int a1, .ref r2, .int a3, .int a4])).length) Slot.unset).toArray = ls at hl ⊢
  have hl : lv_has ls 7 [(0, .ref r0), (1, .int a1), (2, .ref r2), (3, .int a3), (4, .int a4)] := hl
  generalize hR : (headSpec (jw yX14_isNamed cX14_isNamed 7 (some .boolean)) ({ frames := 0, cells := 0, slots := 0, locals := 0 })).room = R
  subst hH0
  have hh : jSt (dC, dI) B base G0 G0 EX14_isNamedP s.heap 0 0 [] [] [] s.heap [] := jSt.start hX hP0 jMc.nil jIs.nil
  clear hX hP0
  have hk0 : (0 : Int32).toInt = 0 := by decide
  have hk1 : (1 : Int32).toInt = 1 := by decide
  have hly_15_6 := htw (u_lay RX13 TX13 6) (jWc_wsX130 _ (u_in_lay (by decide)))
  have hly_15_8 := htw (u_lay RX13 TX13 8) (jWc_wsX130 _ (u_in_lay (by decide)))
  have hly_15_9 := htw (u_lay RX13 TX13 9) (jWc_wsX130 _ (u_in_lay (by decide)))
  have hly_16_58 := htw (u_lay RX14 TX14 58) (jWc_wsX140 _ (u_in_lay (by decide)))
  have hlk_122 := (htw (.fieldLink RX14 122 "ProofServerModel" "kernel" "LProofServerModel$Kernel;") (jWr_12 _ (List.mem_of_getElem? (i := 13) rfl)))
  have hlk_686 := (va_Nw.use (A := ([.ref r0, .int a1, .ref r2, .int a3, .int a4] : List Value).toArray) rfl (hG.2.1 RX14 686 "ProofServerModel$Kernel" "nameLength" "[I" "ProofServerModel" (List.mem_of_getElem? (i := 1792) (by decide +kernel))))
  have hlk_689 := (va_Nw.use (A := ([.ref r0, .int a1, .ref r2, .int a3, .int a4] : List Value).toArray) rfl (hG.2.1 RX14 689 "ProofServerModel$Kernel" "signs" "[I" "ProofServerModel" (List.mem_of_getElem? (i := 1787) (by decide +kernel))))
  have hlk_692 := (va_Nw.use (A := ([.ref r0, .int a1, .ref r2, .int a3, .int a4] : List Value).toArray) rfl (hG.2.1 RX14 692 "ProofServerModel$Kernel" "nameAt" "[I" "ProofServerModel" (List.mem_of_getElem? (i := 1790) (by decide +kernel))))
  have hrg_a1 := jb_rng a1
  have hrg_a3 := jb_rng a3
  have hrg_a4 := jb_rng a4
  refine lv_aload_n hx hb dX14_isNamed_0 rfl (lv_at hl 0 rfl) ?_
  obtain ⟨v_1, hv_1, hh_2⟩ := hh.pin (C := RX14) (T := TX14) (N := 74) hB16 rfl (by decide) hg_r0 (i := 58) (by decide) rfl
  clear hh
  obtain ⟨kernel_3, rfl, hg_kernel_3⟩ := hv_1
  refine j7_read hx hb hown hK (C := RX14) (T := TX14) (N := 74) rfl hly_16_58 hlk_122 (hh_2.at 0 rfl) dX14_isNamed_1 ?_
  obtain ⟨v_4, hv_4, hh_5⟩ := hh_2.pin (C := RX13) (T := TX13) (N := 50) hB15 rfl (by decide) hg_kernel_3 (i := 9) (by decide) rfl
  clear hh_2
  obtain ⟨nameLength_6, rfl, hg_nameLength_6⟩ := hv_4
  refine j7_readN hx hb hown hK (C := RX13) (T := TX13) (N := 50) rfl hly_15_9 hlk_686 (hh_5.at 0 rfl) dX14_isNamed_4 ?_
  refine lv_iload_n hx hb dX14_isNamed_7 rfl (lv_at hl 1 rfl) ?_
  refine j7_iald hx hb hK hh_5 hB156 1 rfl (by decide) hg_nameLength_6 (x := a1.toInt) (rfl) (by omega) dX14_isNamed_8 (fun z_7 (hz_7 : 0 ≤ z_7.toInt ∧ z_7.toInt ≤ 10) => ?_)
  refine lv_iload hx hb dX14_isNamed_9 (lv_at hl 4 rfl) ?_
  have C19 : ∀ (w0_8 : Int32) (H_8 : Heap) (locs_8 : List Loc), jSt (dC, dI) B base G0 G0 EX14_isNamedP s.heap 0 0 [(kernel_3, 15, 9, .ref nameLength_6), (r0, 16, 58, .ref kernel_3)] [] [] H_8 locs_8 → (w0_8 = 0 ∨ w0_8 = 1) → (w0_8.toInt = 0 ∨ a4.toInt ≤ 10) → ∀ ls : Array Slot, lv_has ls 7 [(0, .ref r0), (1, .int a1), (2, .ref r2), (3, .int a3), (4, .int a4)] → W p l e R s m ([.ref r0, .int a1, .ref r2, .int a3, .int a4] : List Value).toArray below meth c H_8 locs_8 0 0 Q (F0 m 19 ls [.int w0_8]) := by
    intro w0_8 H_8 locs_8 hh_8 hb_w0_8 hi_8 ls hl
    have hb_w0_8' := jb_01 hb_w0_8
    refine lv_istore (lv' := [(5, .int w0_8), (0, .ref r0), (1, .int a1), (2, .ref r2), (3, .int a3), (4, .int a4)]) hx hb dX14_isNamed_19 hl (by decide) rfl (fun ls hl => ?_)
    refine lv_iconst (v := 0) hx hb dX14_isNamed_21 (by decide) ?_
    refine lv_istore (lv' := [(6, .int 0), (5, .int w0_8), (0, .ref r0), (1, .int a1), (2, .ref r2), (3, .int a3), (4, .int a4)]) hx hb dX14_isNamed_22 hl (by decide) rfl (fun ls hl => ?_)
    have L24 : ∀ (N : Nat) (v5_9 : Int32) (v6_9 : Int32) (H_9 : Heap) (locs_9 : List Loc), jSt (dC, dI) B base G0 G0 EX14_isNamedP s.heap 0 0 [(kernel_3, 15, 9, .ref nameLength_6), (r0, 16, 58, .ref kernel_3)] [] [] H_9 locs_9 → (v5_9 = 0 ∨ v5_9 = 1) → (0 ≤ v6_9.toInt ∧ v6_9.toInt ≤ 200000 ∧ (v5_9.toInt = 0 ∨ a4.toInt ≤ 10)) → (((a4.toInt - v6_9.toInt).toNat : Int) : Int) < N → ∀ ls : Array Slot, lv_has ls 7 [(0, .ref r0), (1, .int a1), (2, .ref r2), (3, .int a3), (4, .int a4), (5, .int v5_9), (6, .int v6_9)] → W p l e R s m ([.ref r0, .int a1, .ref r2, .int a3, .int a4] : List Value).toArray below meth c H_9 locs_9 0 0 Q (F0 m 24 ls []) := by
      intro N
      induction N with
      | zero => intro v5_9 v6_9 H_9 locs_9 hh_9 hb_v5_9 hi_9 hm; exact absurd hm (by omega)
      | succ N L24 =>
        intro v5_9 v6_9 H_9 locs_9 hh_9 hb_v5_9 hi_9 hm_9 ls hl
        obtain ⟨hi_9_0, hi_9_1, hi_9_2⟩ := hi_9
        have hb_v5_9' := jb_01 hb_v5_9
        refine lv_iload hx hb dX14_isNamed_24 (lv_at hl 6 rfl) ?_
        refine lv_iload hx hb dX14_isNamed_26 (lv_at hl 4 rfl) ?_
        refine lv_icmp_ge (tgt := 78) hx hb dX14_isNamed_28 (by decide) (fun c_10 => ?_) (fun c_10 => ?_)
        · skip
          have c_10' : v6_9.toInt ≥ a4.toInt := jb_ge (rfl) (rfl) c_10
          refine lv_iload hx hb dX14_isNamed_78 (lv_at hl 5 rfl) ?_
          rw [hQ]
          exact W.zret (v := v5_9) hx hb hr (jb_nz (hb_v5_9)) (fun t ht hW => ⟨⟨v5_9, (), rfl, ⟨(hb_v5_9), trivial⟩, hh_9.rt (M1 := []) [] rfl ht⟩, by rw [ht]; try exact hh_9.1.1, fun q h9 hq => by rw [ht]; try exact hh_9.1.2.1 q h9 hq⟩) hh_9.1.2.2 dX14_isNamed_80
        · skip
          have c_10' : v6_9.toInt < a4.toInt := jb_ge_n (rfl) (rfl) c_10
          refine lv_iload hx hb dX14_isNamed_31 (lv_at hl 5 rfl) ?_
          refine lv_if_eq (tgt := 78) hx hb dX14_isNamed_33 (by decide) (fun c_11 => ?_) (fun c_11 => ?_)
          · skip
            have c_11' : v5_9.toInt = 0 := jb_eq (rfl) ((by decide)) c_11
            refine lv_iload hx hb dX14_isNamed_78 (lv_at hl 5 rfl) ?_
            rw [hQ]
            exact W.zret (v := v5_9) hx hb hr (jb_nz (hb_v5_9)) (fun t ht hW => ⟨⟨v5_9, (), rfl, ⟨(hb_v5_9), trivial⟩, hh_9.rt (M1 := []) [] rfl ht⟩, by rw [ht]; try exact hh_9.1.1, fun q h9 hq => by rw [ht]; try exact hh_9.1.2.1 q h9 hq⟩) hh_9.1.2.2 dX14_isNamed_80
          · skip
            have c_11' : v5_9.toInt ≠ 0 := jb_eq_n (rfl) ((by decide)) c_11
            refine lv_aload_n hx hb dX14_isNamed_36 rfl (lv_at hl 0 rfl) ?_
            refine j7_read hx hb hown hK (C := RX14) (T := TX14) (N := 74) rfl hly_16_58 hlk_122 (hh_9.at 1 rfl) dX14_isNamed_37 ?_
            obtain ⟨v_12, hv_12, hh_13⟩ := hh_9.pin (C := RX13) (T := TX13) (N := 50) hB15 rfl (by decide) hg_kernel_3 (i := 6) (by decide) rfl
            clear hh_9
            obtain ⟨signs_14, rfl, hg_signs_14⟩ := hv_12
            refine j7_readN hx hb hown hK (C := RX13) (T := TX13) (N := 50) rfl hly_15_6 hlk_689 (hh_13.at 0 rfl) dX14_isNamed_40 ?_
            refine lv_aload_n hx hb dX14_isNamed_43 rfl (lv_at hl 0 rfl) ?_
            refine j7_read hx hb hown hK (C := RX14) (T := TX14) (N := 74) rfl hly_16_58 hlk_122 (hh_13.at 2 rfl) dX14_isNamed_44 ?_
            obtain ⟨v_15, hv_15, hh_16⟩ := hh_13.pin (C := RX13) (T := TX13) (N := 50) hB15 rfl (by decide) hg_kernel_3 (i := 8) (by decide) rfl
            clear hh_13
            obtain ⟨nameAt_17, rfl, hg_nameAt_17⟩ := hv_15
            refine j7_readN hx hb hown hK (C := RX13) (T := TX13) (N := 50) rfl hly_15_8 hlk_692 (hh_16.at 0 rfl) dX14_isNamed_47 ?_
            refine lv_iload_n hx hb dX14_isNamed_50 rfl (lv_at hl 1 rfl) ?_
            refine j7_iald hx hb hK hh_16 hB155 1 rfl (by decide) hg_nameAt_17 (x := a1.toInt) (rfl) (by omega) dX14_isNamed_51 (fun z_18 (hz_18 : 0 ≤ z_18.toInt ∧ z_18.toInt ≤ 11990) => ?_)
            refine lv_iload hx hb dX14_isNamed_52 (lv_at hl 6 rfl) ?_
            refine lv_iadd hx hb dX14_isNamed_54 ?_
            refine lv_topi (fun z_19 ez_19 => ?_)
            have hz_19 : z_19.toInt = z_18.toInt + v6_9.toInt := by rw [ez_19]; exact jb_iadd2 (rfl) (rfl) (by omega)
            refine j7_iald hx hb hK hh_16 hB166 1 rfl (by decide) hg_signs_14 (x := z_19.toInt) (rfl) (by omega) dX14_isNamed_55 (fun z_20 (hz_20 : True) => ?_)
            refine lv_aload_n hx hb dX14_isNamed_56 rfl (lv_at hl 2 rfl) ?_
            refine lv_iload_n hx hb dX14_isNamed_57 rfl (lv_at hl 3 rfl) ?_
            refine lv_iload hx hb dX14_isNamed_58 (lv_at hl 6 rfl) ?_
            refine lv_iadd hx hb dX14_isNamed_60 ?_
            refine lv_topi (fun z_21 ez_21 => ?_)
            have hz_21 : z_21.toInt = a3.toInt + v6_9.toInt := by rw [ez_21]; exact jb_iadd2 (rfl) (rfl) (by omega)
            refine j7_iald hx hb hK hh_16 hB127 1 rfl (by decide) hg_r2 (x := z_21.toInt) (rfl) (by omega) dX14_isNamed_61 (fun z_22 (hz_22 : True) => ?_)
            refine lv_icmp_ne (tgt := 69) hx hb dX14_isNamed_62 (by decide) (fun c_23 => ?_) (fun c_23 => ?_)
            · skip
              have c_23' : z_20.toInt ≠ z_22.toInt := jb_ne (rfl) (rfl) c_23
              refine lv_iconst (v := 0) hx hb dX14_isNamed_69 (by decide) ?_
              refine lv_istore (lv' := [(5, .int 0), (0, .ref r0), (1, .int a1), (2, .ref r2), (3, .int a3), (4, .int a4), (6, .int v6_9)]) hx hb dX14_isNamed_70 hl (by decide) rfl (fun ls hl => ?_)
              obtain ⟨z_24, ez_24⟩ : ∃ y : Int32, y = v6_9 + 1 := ⟨_, rfl⟩
              refine lv_iinc (v := z_24) (lv' := [(6, .int z_24), (5, .int 0), (0, .ref r0), (1, .int a1), (2, .ref r2), (3, .int a3), (4, .int a4)]) hx hb dX14_isNamed_72 hl (k := 6) rfl (by rw [ez_24]; rfl) (by decide) rfl (fun ls hl => ?_)
              have hz_24 : z_24.toInt = v6_9.toInt + 1 := by rw [ez_24]; exact jb_iadd2 (rfl) (by decide) (by omega)
              refine lv_goto (tgt := 24) hx hb dX14_isNamed_75 (by decide) ?_
              exact L24 0 z_24 _ _ (hh_16.sub (L1 := [(kernel_3, 15, 9, .ref nameLength_6), (r0, 16, 58, .ref kernel_3)]) [2, 3] rfl (M1 := []) [] rfl (I1 := []) [] rfl) (Or.inl rfl) (by first | omega | (refine ⟨?_, ?_, ?_⟩ <;> (first | omega | rfl | assumption | decide | exact Or.inl rfl | exact Or.inr rfl | (simp only; omega)))) (by omega) _ (lv_sub hl [2, 3, 4, 5, 6, 1, 0] rfl)
            · skip
              have c_23' : z_20.toInt = z_22.toInt := jb_ne_n (rfl) (rfl) c_23
              refine lv_iconst (v := 1) hx hb dX14_isNamed_65 (by decide) ?_
              refine lv_goto (tgt := 70) hx hb dX14_isNamed_66 (by decide) ?_
              refine lv_istore (lv' := [(5, .int 1), (0, .ref r0), (1, .int a1), (2, .ref r2), (3, .int a3), (4, .int a4), (6, .int v6_9)]) hx hb dX14_isNamed_70 hl (by decide) rfl (fun ls hl => ?_)
              obtain ⟨z_25, ez_25⟩ : ∃ y : Int32, y = v6_9 + 1 := ⟨_, rfl⟩
              refine lv_iinc (v := z_25) (lv' := [(6, .int z_25), (5, .int 1), (0, .ref r0), (1, .int a1), (2, .ref r2), (3, .int a3), (4, .int a4)]) hx hb dX14_isNamed_72 hl (k := 6) rfl (by rw [ez_25]; rfl) (by decide) rfl (fun ls hl => ?_)
              have hz_25 : z_25.toInt = v6_9.toInt + 1 := by rw [ez_25]; exact jb_iadd2 (rfl) (by decide) (by omega)
              refine lv_goto (tgt := 24) hx hb dX14_isNamed_75 (by decide) ?_
              exact L24 1 z_25 _ _ (hh_16.sub (L1 := [(kernel_3, 15, 9, .ref nameLength_6), (r0, 16, 58, .ref kernel_3)]) [2, 3] rfl (M1 := []) [] rfl (I1 := []) [] rfl) (Or.inr rfl) (by first | omega | (refine ⟨?_, ?_, ?_⟩ <;> (first | omega | rfl | assumption | decide | exact Or.inl rfl | exact Or.inr rfl | (simp only; omega)))) (by omega) _ (lv_sub hl [2, 3, 4, 5, 6, 1, 0] rfl)
    exact L24 (((a4.toInt - (0 : Int32).toInt).toNat : Int) : Int).toNat.succ w0_8 0 _ _ hh_8 (hb_w0_8) (by first | omega | (refine ⟨?_, ?_, ?_⟩ <;> (first | omega | rfl | assumption | decide | exact Or.inl rfl | exact Or.inr rfl | (simp only; omega)))) (by omega) _ (lv_sub hl [2, 3, 4, 5, 6, 1, 0] rfl)
  refine lv_icmp_ne (tgt := 18) hx hb dX14_isNamed_11 (by decide) (fun c_26 => ?_) (fun c_26 => ?_)
  · skip
    have c_26' : z_7.toInt ≠ a4.toInt := jb_ne (rfl) (rfl) c_26
    refine lv_iconst (v := 0) hx hb dX14_isNamed_18 (by decide) ?_
    exact C19 0 _ _ hh_5 (Or.inl rfl) (by first | omega | rfl | assumption | decide | exact Or.inl rfl | exact Or.inr rfl | (simp only; omega)) _ (lv_sub hl [0, 1, 2, 3, 4] rfl)
  · skip
    have c_26' : z_7.toInt = a4.toInt := jb_ne_n (rfl) (rfl) c_26
    refine lv_iconst (v := 1) hx hb dX14_isNamed_14 (by decide) ?_
    refine lv_goto (tgt := 19) hx hb dX14_isNamed_15 (by decide) ?_
    exact C19 1 _ _ hh_5 (Or.inr rfl) (by first | omega | rfl | assumption | decide | exact Or.inl rfl | exact Or.inr rfl | (simp only; omega)) _ (lv_sub hl [0, 1, 2, 3, 4] rfl)
set_option maxHeartbeats 4000000 in
set_option maxRecDepth 20000 in
theorem uX14_statementOfP (l : Launch) (dC : Nat → ClassId) (dI : Nat → Nat → Nat) (ca : Nat → ClassId) (base : Nat) (B : jF) (hB : jBok B) (hAp : jAp (dC, dI)) (hB15 : ∀ n G a H, B 15 n G a H ↔ jOb (dC, dI) 15 50 (F15 n G) a H) (hB16 : ∀ n G a H, B 16 n G a H ↔ jOb (dC, dI) 16 74 (F16 n G) a H) (hB101 : ∀ n G a H, B 101 n G a H ↔ jAr (dC, dI) (ca 1) (fun j z => True) n a H) (hB127 : ∀ n G a H, B 127 n G a H ↔ jAr (dC, dI) (ca 1) (fun j z => True) n a H) (hB150 : ∀ n G a H, B 150 n G a H ↔ jAr (dC, dI) (ca 1) (fun j z => True) n a H) (hB151 : ∀ n G a H, B 151 n G a H ↔ jAr (dC, dI) (ca 1) (fun j z => True) n a H) (hB152 : ∀ n G a H, B 152 n G a H ↔ jAr (dC, dI) (ca 1) (fun j z => True) n a H) (hB153 : ∀ n G a H, B 153 n G a H ↔ jAr (dC, dI) (ca 1) (fun j z => True) n a H) (hB154 : ∀ n G a H, B 154 n G a H ↔ jAr (dC, dI) (ca 1) (fun j z => True) n a H) (hB155 : ∀ n G a H, B 155 n G a H ↔ jAr (dC, dI) (ca 1) (fun j z => 0 ≤ z.toInt ∧ z.toInt ≤ 11990) n a H) (hB156 : ∀ n G a H, B 156 n G a H ↔ jAr (dC, dI) (ca 1) (fun j z => 0 ≤ z.toInt ∧ z.toInt ≤ 10) n a H) (hB160 : ∀ n G a H, B 160 n G a H ↔ jAr (dC, dI) (ca 1) (fun j z => 0 ≤ z.toInt ∧ z.toInt ≤ 119999) n a H) (hB163 : ∀ n G a H, B 163 n G a H ↔ jAr (dC, dI) (ca 1) (fun j z => 0 ≤ z.toInt ∧ z.toInt ≤ 1599) n a H) (hB164 : ∀ n G a H, B 164 n G a H ↔ jAr (dC, dI) (ca 1) (fun j z => 0 ≤ z.toInt ∧ z.toInt ≤ 100000) n a H) (hB165 : ∀ n G a H, B 165 n G a H ↔ jAr (dC, dI) (ca 1) (fun j z => 0 ≤ z.toInt ∧ z.toInt ≤ 3) n a H) (hB166 : ∀ n G a H, B 166 n G a H ↔ jAr (dC, dI) (ca 1) (fun j z => True) n a H) (G0 : jT) (H0 : Heap) (r0 : Nat) (r1 : Nat) (a2 : Int32) (a3 : Int32) (n1 : Nat) (kr : Nat) (pf : Int32) (py : Int32) (zf : Nat) (zs : Nat) (zn : Nat) (za : Nat) (zb : Nat) (zc : Nat) (zy : Nat) (gN : Int) (gY : Int) (ff : Nat → Int32) (C : jK) : Met l yX14_statementOf (jw yX14_statementOf cX14_statementOf 7 none) ({ frames := 252, cells := 0, slots := 0, locals := 8244 }) (va_Pc [.ref r0, .ref r1, .int a2, .int a3] (fun U => U.heap = H0 ∧ jX B base G0 [] H0 ∧ jG dC dI ca base U ∧ G0 r1 = some (127, n1) ∧ G0 r0 = some (16, 0) ∧ G0 kr = some (15, 0) ∧ G0 zf = some (160, 16) ∧ G0 zs = some (150, 120000) ∧ G0 zn = some (151, 120000) ∧ G0 za = some (152, 120000) ∧ G0 zb = some (153, 120000) ∧ G0 zc = some (154, 120000) ∧ G0 zy = some (165, 16) ∧ jP (dC, dI) G0 H0 [(r0, 16, 58, .ref kr), (kr, 15, 15, .int pf), (kr, 15, 11, .int py), (kr, 15, 17, .ref zf), (kr, 15, 0, .ref zs), (kr, 15, 1, .ref zn), (kr, 15, 2, .ref za), (kr, 15, 3, .ref zb), (kr, 15, 4, .ref zc), (kr, 15, 14, .ref zy)] ∧ jMc (dC, dI) G0 H0 [(zf, 160, 16, ca 1, ff), (zs, 150, 120000, ca 1, C.s), (zn, 151, 120000, ca 1, C.n), (za, 152, 120000, ca 1, C.a), (zb, 153, 120000, ca 1, C.b), (zc, 154, 120000, ca 1, C.c), (zy, 165, 16, ca 1, C.y)] ∧ jFa (jG1 C gN gY) ff pf.toInt ∧ 0 ≤ pf.toInt ∧ pf.toInt ≤ 16 ∧ 0 ≤ py.toInt ∧ py.toInt ≤ 16 ∧ gN ≤ 120000 ∧ gY ≤ 16 ∧ 0 ≤ a2.toInt ∧ a2.toInt + a3.toInt ≤ n1 ∧ n1 ≤ 200000)) (va_Qv (S := Unit) (fun u => True) (fun u t => jRt (dC, dI) B base G0 EX14_statementOfP H0 [] t.heap) (jA base)) 0 0 (jA base) := by
  refine Met.ofW (cc := cX14_statementOf) (maxL := 7) (ret := none) (by decide) rfl ?_
  intro p e s m args below meth c s₁ Bd hml hv
  obtain ⟨rfl, hH0, hX, hG, hg_r1, hg_r0, hg_kr, hg_zf, hg_zs, hg_zn, hg_za, hg_zb, hg_zc, hg_zy, hP0, hM0, hp0, hp1, hp2, hp3, hp4, hp5, hp6, hp7, hp8, hp9⟩ := hv
  have hK := hG.1
  have hx := Bd.exec
  have hb := Bd.bytes
  have hr := Bd.returns
  have hts := atoms_spec (ws := (jw yX14_statementOf cX14_statementOf 7 none)) Bd.pre
  have htw : ∀ w ∈ jWl, w.before _ s = true := fun w h => hts w (List.mem_cons_of_mem _ h)
  have hown : s.vm.findClass RX14 = some m.cls := findClass_of_methodNamed Bd.named
  have hlocks := Bd.notSynchronized
  obtain ⟨Q, hQ⟩ : ∃ Q, Q = MQ below (va_Qv (S := Unit) (fun u => True) (fun u t => jRt (dC, dI) B base G0 EX14_statementOfP H0 [] t.heap) (jA base)) ([.ref r0, .ref r1, .int a2, .int a3] : List Value).toArray s 0 0 (jA base) := ⟨_, rfl⟩
  rw [← hQ]
  have hl := lv_entry ([.ref r0, .ref r1, .int a2, .int a3]) (n := 7) (Nat.le_of_ble_eq_true rfl)
  rw [lg_entry_eq]
  generalize (lg_sl ([.ref r0, .ref r1, .int a2, .int a3]) ++ List.replicate (7 - (lg_sl ([.ref r0, .ref r1, .int a2, .int a3])).length) Slot.unset).toArray = ls at hl ⊢
  have hl : lv_has ls 7 [(0, .ref r0), (1, .ref r1), (2, .int a2), (3, .int a3)] := hl
  generalize hR : (headSpec (jw yX14_statementOf cX14_statementOf 7 none) ({ frames := 252, cells := 0, slots := 0, locals := 8244 })).room = R
  subst hH0
  have hh : jSt (dC, dI) B base G0 G0 EX14_statementOfP s.heap 0 0 [(r0, 16, 58, .ref kr), (kr, 15, 15, .int pf), (kr, 15, 11, .int py), (kr, 15, 17, .ref zf), (kr, 15, 0, .ref zs), (kr, 15, 1, .ref zn), (kr, 15, 2, .ref za), (kr, 15, 3, .ref zb), (kr, 15, 4, .ref zc), (kr, 15, 14, .ref zy)] [(zf, 160, 16, ca 1, ff), (zs, 150, 120000, ca 1, C.s), (zn, 151, 120000, ca 1, C.n), (za, 152, 120000, ca 1, C.a), (zb, 153, 120000, ca 1, C.b), (zc, 154, 120000, ca 1, C.c), (zy, 165, 16, ca 1, C.y)] [] s.heap [] := jSt.start hX hP0 hM0 jIs.nil
  clear hX hP0
  have hkm1 : ((-1) : Int32).toInt = (-1) := by decide
  have hk0 : (0 : Int32).toInt = 0 := by decide
  have hk1 : (1 : Int32).toInt = 1 := by decide
  have hly_15_11 := htw (u_lay RX13 TX13 11) (jWc_wsX130 _ (u_in_lay (by decide)))
  have hly_15_12 := htw (u_lay RX13 TX13 12) (jWc_wsX130 _ (u_in_lay (by decide)))
  have hly_15_14 := htw (u_lay RX13 TX13 14) (jWc_wsX130 _ (u_in_lay (by decide)))
  have hly_15_15 := htw (u_lay RX13 TX13 15) (jWc_wsX130 _ (u_in_lay (by decide)))
  have hly_15_16 := htw (u_lay RX13 TX13 16) (jWc_wsX130 _ (u_in_lay (by decide)))
  have hly_15_17 := htw (u_lay RX13 TX13 17) (jWc_wsX130 _ (u_in_lay (by decide)))
  have hly_15_46 := htw (u_lay RX13 TX13 46) (jWc_wsX130 _ (u_in_lay (by decide)))
  have hly_16_58 := htw (u_lay RX14 TX14 58) (jWc_wsX140 _ (u_in_lay (by decide)))
  have hlk_122 := (htw (.fieldLink RX14 122 "ProofServerModel" "kernel" "LProofServerModel$Kernel;") (jWr_12 _ (List.mem_of_getElem? (i := 13) rfl)))
  have hlk_661 := (va_Nw.use (A := ([.ref r0, .ref r1, .int a2, .int a3] : List Value).toArray) rfl (hG.2.1 RX14 661 "ProofServerModel$Kernel" "facts" "I" "ProofServerModel" (List.mem_of_getElem? (i := 1802) (by decide +kernel))))
  have hlk_664 := (va_Nw.use (A := ([.ref r0, .ref r1, .int a2, .int a3] : List Value).toArray) rfl (hG.2.1 RX14 664 "ProofServerModel$Kernel" "factName" "[I" "ProofServerModel" (List.mem_of_getElem? (i := 1804) (by decide +kernel))))
  have hlk_671 := (va_Nw.use (A := ([.ref r0, .ref r1, .int a2, .int a3] : List Value).toArray) rfl (hG.2.1 RX14 671 "ProofServerModel$Kernel" "symbols" "I" "ProofServerModel" (List.mem_of_getElem? (i := 1795) (by decide +kernel))))
  have hlk_674 := (va_Nw.use (A := ([.ref r0, .ref r1, .int a2, .int a3] : List Value).toArray) rfl (hG.2.1 RX14 674 "ProofServerModel$Kernel" "symbol" "[I" "ProofServerModel" (List.mem_of_getElem? (i := 1797) (by decide +kernel))))
  have hlk_634 := (va_Nw.use (A := ([.ref r0, .ref r1, .int a2, .int a3] : List Value).toArray) rfl (hG.2.1 RX14 634 "ProofServerModel$Kernel" "lines" "I" "ProofServerModel" (List.mem_of_getElem? (i := 1840) (by decide +kernel))))
  have hlk_677 := (va_Nw.use (A := ([.ref r0, .ref r1, .int a2, .int a3] : List Value).toArray) rfl (hG.2.1 RX14 677 "ProofServerModel$Kernel" "fact" "[I" "ProofServerModel" (List.mem_of_getElem? (i := 1806) (by decide +kernel))))
  have hlk_683 := (va_Nw.use (A := ([.ref r0, .ref r1, .int a2, .int a3] : List Value).toArray) rfl (hG.2.1 RX14 683 "ProofServerModel$Kernel" "arity" "[I" "ProofServerModel" (List.mem_of_getElem? (i := 1800) (by decide +kernel))))
  obtain ⟨str307, rstr307, hstr3070⟩ := hG.str (o := RX14) (k := 307) (tx := "null") (List.mem_of_getElem? (i := 2366) (by decide +kernel))
  have hstr307 : jStr base str307 4 s s.heap := hstr3070
  have hrg_a2 := jb_rng a2
  have hrg_a3 := jb_rng a3
  refine lv_iconst (v := (-1)) hx hb dX14_statementOf_0 (by decide) ?_
  refine lv_istore (lv' := [(4, .int (-1)), (0, .ref r0), (1, .ref r1), (2, .int a2), (3, .int a3)]) hx hb dX14_statementOf_1 hl (by decide) rfl (fun ls hl => ?_)
  refine lv_iconst (v := (-1)) hx hb dX14_statementOf_3 (by decide) ?_
  refine lv_istore (lv' := [(5, .int (-1)), (4, .int (-1)), (0, .ref r0), (1, .ref r1), (2, .int a2), (3, .int a3)]) hx hb dX14_statementOf_4 hl (by decide) rfl (fun ls hl => ?_)
  refine lv_iconst (v := 0) hx hb dX14_statementOf_6 (by decide) ?_
  refine lv_istore (lv' := [(6, .int 0), (5, .int (-1)), (4, .int (-1)), (0, .ref r0), (1, .ref r1), (2, .int a2), (3, .int a3)]) hx hb dX14_statementOf_7 hl (by decide) rfl (fun ls hl => ?_)
  have L9 : ∀ (N : Nat) (v4_1 : Int32) (v6_1 : Int32) (H_1 : Heap) (locs_1 : List Loc), jSt (dC, dI) B base G0 G0 EX14_statementOfP s.heap 0 0 [(r0, 16, 58, .ref kr), (kr, 15, 15, .int pf), (kr, 15, 11, .int py), (kr, 15, 17, .ref zf), (kr, 15, 0, .ref zs), (kr, 15, 1, .ref zn), (kr, 15, 2, .ref za), (kr, 15, 3, .ref zb), (kr, 15, 4, .ref zc), (kr, 15, 14, .ref zy)] [(zf, 160, 16, ca 1, ff), (zs, 150, 120000, ca 1, C.s), (zn, 151, 120000, ca 1, C.n), (za, 152, 120000, ca 1, C.a), (zb, 153, 120000, ca 1, C.b), (zc, 154, 120000, ca 1, C.c), (zy, 165, 16, ca 1, C.y)] [] H_1 locs_1 → (0 ≤ v6_1.toInt ∧ v6_1.toInt ≤ pf.toInt ∧ -1 ≤ v4_1.toInt ∧ v4_1.toInt < pf.toInt) → (pf.toInt - v6_1.toInt : Int) < N → ∀ ls : Array Slot, lv_has ls 7 [(0, .ref r0), (1, .ref r1), (2, .int a2), (3, .int a3), (4, .int v4_1), (5, .int (-1)), (6, .int v6_1)] → W p l e R s m ([.ref r0, .ref r1, .int a2, .int a3] : List Value).toArray below meth c H_1 locs_1 0 0 Q (F0 m 9 ls []) := by
    intro N
    induction N with
    | zero => intro v4_1 v6_1 H_1 locs_1 hh_1  hi_1 hm; exact absurd hm (by omega)
    | succ N L9 =>
      intro v4_1 v6_1 H_1 locs_1 hh_1  hi_1 hm_1 ls hl
      obtain ⟨hi_1_0, hi_1_1, hi_1_2, hi_1_3⟩ := hi_1
      refine lv_iload hx hb dX14_statementOf_9 (lv_at hl 6 rfl) ?_
      refine lv_aload_n hx hb dX14_statementOf_11 rfl (lv_at hl 0 rfl) ?_
      refine j7_read hx hb hown hK (C := RX14) (T := TX14) (N := 74) rfl hly_16_58 hlk_122 (hh_1.at 0 rfl) dX14_statementOf_12 ?_
      refine j7_readN hx hb hown hK (C := RX13) (T := TX13) (N := 50) rfl hly_15_15 hlk_661 (hh_1.at 1 rfl) dX14_statementOf_15 ?_
      refine lv_icmp_ge (tgt := 51) hx hb dX14_statementOf_18 (by decide) (fun c_2 => ?_) (fun c_2 => ?_)
      · skip
        have c_2' : v6_1.toInt ≥ pf.toInt := jb_ge (rfl) (rfl) c_2
        refine lv_iconst (v := 0) hx hb dX14_statementOf_51 (by decide) ?_
        refine lv_istore (lv' := [(6, .int 0), (0, .ref r0), (1, .ref r1), (2, .int a2), (3, .int a3), (4, .int v4_1), (5, .int (-1))]) hx hb dX14_statementOf_52 hl (by decide) rfl (fun ls hl => ?_)
        have L54 : ∀ (N : Nat) (v5_3 : Int32) (v6_3 : Int32) (H_3 : Heap) (locs_3 : List Loc), jSt (dC, dI) B base G0 G0 EX14_statementOfP s.heap 0 0 [(r0, 16, 58, .ref kr), (kr, 15, 15, .int pf), (kr, 15, 11, .int py), (kr, 15, 17, .ref zf), (kr, 15, 0, .ref zs), (kr, 15, 1, .ref zn), (kr, 15, 2, .ref za), (kr, 15, 3, .ref zb), (kr, 15, 4, .ref zc), (kr, 15, 14, .ref zy)] [(zf, 160, 16, ca 1, ff), (zs, 150, 120000, ca 1, C.s), (zn, 151, 120000, ca 1, C.n), (za, 152, 120000, ca 1, C.a), (zb, 153, 120000, ca 1, C.b), (zc, 154, 120000, ca 1, C.c), (zy, 165, 16, ca 1, C.y)] [] H_3 locs_3 → (0 ≤ v6_3.toInt ∧ v6_3.toInt ≤ py.toInt ∧ -1 ≤ v5_3.toInt ∧ v5_3.toInt < py.toInt) → (py.toInt - v6_3.toInt : Int) < N → ∀ ls : Array Slot, lv_has ls 7 [(0, .ref r0), (1, .ref r1), (2, .int a2), (3, .int a3), (4, .int v4_1), (5, .int v5_3), (6, .int v6_3)] → W p l e R s m ([.ref r0, .ref r1, .int a2, .int a3] : List Value).toArray below meth c H_3 locs_3 0 0 Q (F0 m 54 ls []) := by
          intro N
          induction N with
          | zero => intro v5_3 v6_3 H_3 locs_3 hh_3  hi_3 hm; exact absurd hm (by omega)
          | succ N L54 =>
            intro v5_3 v6_3 H_3 locs_3 hh_3  hi_3 hm_3 ls hl
            obtain ⟨hi_3_0, hi_3_1, hi_3_2, hi_3_3⟩ := hi_3
            refine lv_iload hx hb dX14_statementOf_54 (lv_at hl 6 rfl) ?_
            refine lv_aload_n hx hb dX14_statementOf_56 rfl (lv_at hl 0 rfl) ?_
            refine j7_read hx hb hown hK (C := RX14) (T := TX14) (N := 74) rfl hly_16_58 hlk_122 (hh_3.at 0 rfl) dX14_statementOf_57 ?_
            refine j7_readN hx hb hown hK (C := RX13) (T := TX13) (N := 50) rfl hly_15_11 hlk_671 (hh_3.at 2 rfl) dX14_statementOf_60 ?_
            refine lv_icmp_ge (tgt := 96) hx hb dX14_statementOf_63 (by decide) (fun c_4 => ?_) (fun c_4 => ?_)
            · skip
              have c_4' : v6_3.toInt ≥ py.toInt := jb_ge (rfl) (rfl) c_4
              refine lv_iload hx hb dX14_statementOf_96 (lv_at hl 4 rfl) ?_
              refine lv_if_lt (tgt := 134) hx hb dX14_statementOf_98 (by decide) (fun c_5 => ?_) (fun c_5 => ?_)
              · skip
                have c_5' : v4_1.toInt < 0 := jb_lt (rfl) ((by decide)) c_5
                refine lv_iload hx hb dX14_statementOf_134 (lv_at hl 5 rfl) ?_
                refine lv_if_lt (tgt := 156) hx hb dX14_statementOf_136 (by decide) (fun c_6 => ?_) (fun c_6 => ?_)
                · skip
                  have c_6' : v5_3.toInt < 0 := jb_lt (rfl) ((by decide)) c_6
                  refine lv_aload_n hx hb dX14_statementOf_156 rfl (lv_at hl 0 rfl) ?_
                  refine j_ldcSw hx hb hown rstr307 dX14_statementOf_157 ?_
                  obtain ⟨v_9, hv_9, hh_10⟩ := hh_3.pin (C := RX14) (T := TX14) (N := 74) hB16 rfl (by decide) hg_r0 (i := 6) (by decide) rfl
                  obtain ⟨framed_11, rfl, hloframed_11, hhiframed_11⟩ := hv_9
                  refine va_callv (A0 := jA base) (H0 := s.heap) (va_runV (As := [.ref str307]) (rest := []) ⟨hx, hb, hml, hown, hts⟩ (uX14_word l dC dI ca base B hB hAp hB16 hB101 G0 H_3 r0 str307 4 framed_11) (cwV 1 hts (jgV (jWr_53 _ (List.mem_of_getElem? (i := 22) rfl)) (jWr_53 _ (List.mem_of_getElem? (i := 23) rfl)) (jWr_54 _ (List.mem_of_getElem? (i := 0) rfl)) (jWr_1 _ (List.mem_of_getElem? (i := 5) rfl)) (jWr_54 _ (List.mem_of_getElem? (i := 1) rfl))) rfl rfl rfl (by decide +kernel) ⟨by rw [← hR]; exact Nat.le_of_ble_eq_true rfl, by rw [← hR]; exact Nat.le_of_ble_eq_true rfl⟩) ⟨fun a U g mk q => by obtain ⟨q0, q1, q2, qK, q10, q11, q12, q13⟩ := q; exact ⟨q0, q1, q2, jG.calling g mk a qK, (q10.moved (Vm.Alike.refl U.vm)), q11, q12, q13⟩, hh_10.recv (C := RX14) (T := TX14) (N := 74) hB16 rfl (by decide) hg_r0 hK, fun U hU hW => ⟨rfl, hU, hh_10.2.1, hG.step hW hU hh_10.1, (hstr307.moved hW.alike).kept hh_10.1.2.1, hg_r0, (hh_10.2.2.1.sub (L1 := [(r0, 16, 6, .int framed_11)]) [0] rfl), by first | omega | (refine ⟨?_, ?_, ?_⟩ <;> (first | omega | rfl | assumption | decide | exact Or.inl rfl | exact Or.inr rfl | (simp only; omega)))⟩⟩ rfl rfl hl.1 rfl (lv_room (Nat.le_of_ble_eq_true rfl)) dX14_statementOf_160 ⟨Nat.zero_le _, Nat.zero_le _⟩) hh_10.1 (fun q _ h => h) (fun q h => h) (fun u_7 t_7 H_7 locs_7 ht_7 hvm_7 hr_8 hb_7 hz_7 hk_7 hS_7 => ?_)
                  obtain ⟨qf_7, rfl⟩ : ∃ z, z = u_7 := ⟨_, rfl⟩
                  rw [ht_7] at hb_7
                  obtain ⟨hb_71, hb_72, hb_73, hb_74, hb_75⟩ := hb_7
                  have hh_7 : jSt (dC, dI) B base G0 G0 EX14_statementOfP s.heap 0 0 [(r0, 16, 6, .int qf_7), (r0, 16, 58, .ref kr), (kr, 15, 15, .int pf), (kr, 15, 11, .int py), (kr, 15, 17, .ref zf), (kr, 15, 0, .ref zs), (kr, 15, 1, .ref zn), (kr, 15, 2, .ref za), (kr, 15, 3, .ref zb), (kr, 15, 4, .ref zc), (kr, 15, 14, .ref zy)] [(zf, 160, 16, ca 1, ff), (zs, 150, 120000, ca 1, C.s), (zn, 151, 120000, ca 1, C.n), (za, 152, 120000, ca 1, C.a), (zb, 153, 120000, ca 1, C.b), (zc, 154, 120000, ca 1, C.c), (zy, 165, 16, ca 1, C.y)] [] H_7 locs_7 := ((hh_10.call hb_71 hb_72 hb_73 hb_74 hS_7 rfl (L1 := [(r0, 16, 58, .ref kr), (kr, 15, 15, .int pf), (kr, 15, 11, .int py), (kr, 15, 17, .ref zf), (kr, 15, 0, .ref zs), (kr, 15, 1, .ref zn), (kr, 15, 2, .ref za), (kr, 15, 3, .ref zb), (kr, 15, 4, .ref zc), (kr, 15, 14, .ref zy)]) [1, 2, 3, 4, 5, 6, 7, 8, 9, 10] rfl rfl (M1 := [(zf, 160, 16, ca 1, ff), (zs, 150, 120000, ca 1, C.s), (zn, 151, 120000, ca 1, C.n), (za, 152, 120000, ca 1, C.a), (zb, 153, 120000, ca 1, C.b), (zc, 154, 120000, ca 1, C.c), (zy, 165, 16, ca 1, C.y)]) [0, 1, 2, 3, 4, 5, 6] rfl rfl (I1 := []) [] rfl rfl).more hb_75)
                  clear hh_10 ht_7 hvm_7 hz_7 hk_7 hS_7 hb_71 hb_72 hb_73 hb_74 hb_75
                  obtain ⟨hr_8_0, hr_8_1⟩ := hr_8
                  rw [hQ]
                  exact W.vret hx hb hr (fun t ht hW => ⟨⟨(), rfl, trivial, hh_7.rt (M1 := []) [] rfl ht⟩, by rw [ht]; try exact hh_7.1.1, fun q h9 hq => by rw [ht]; try exact hh_7.1.2.1 q h9 hq⟩) hh_7.1.2.2 dX14_statementOf_163
                · skip
                  have c_6' : v5_3.toInt ≥ 0 := jb_lt_n (rfl) ((by decide)) c_6
                  refine lv_aload_n hx hb dX14_statementOf_139 rfl (lv_at hl 0 rfl) ?_
                  refine lv_aload_n hx hb dX14_statementOf_140 rfl (lv_at hl 0 rfl) ?_
                  refine j7_read hx hb hown hK (C := RX14) (T := TX14) (N := 74) rfl hly_16_58 hlk_122 (hh_3.at 0 rfl) dX14_statementOf_141 ?_
                  refine j7_readN hx hb hown hK (C := RX13) (T := TX13) (N := 50) rfl hly_15_14 hlk_683 (hh_3.at 9 rfl) dX14_statementOf_144 ?_
                  refine lv_iload hx hb dX14_statementOf_147 (lv_at hl 5 rfl) ?_
                  refine j7_ialdM hx hb hK hh_3 hB165 1 rfl (by decide) hg_zy (x := v5_3.toInt) (rfl) (by omega) (j := 6) rfl dX14_statementOf_149 (fun z_12 ez_12 (hz_12 : 0 ≤ z_12.toInt ∧ z_12.toInt ≤ 3) => ?_)
                  have hqz_12 : z_12.toInt = jSo C.y (v5_3.toInt) := by unfold jSo; rw [ez_12]
                  obtain ⟨v_15, hv_15, hh_16⟩ := hh_3.pin (C := RX14) (T := TX14) (N := 74) hB16 rfl (by decide) hg_r0 (i := 6) (by decide) rfl
                  obtain ⟨framed_17, rfl, hloframed_17, hhiframed_17⟩ := hv_15
                  refine va_callv (A0 := jA base) (H0 := s.heap) (va_runV (As := [.int z_12]) (rest := []) ⟨hx, hb, hml, hown, hts⟩ (uX14_number l dC dI ca base B hB hAp hB16 hB101 G0 H_3 r0 z_12 framed_17) (cwV 1 hts (jgV (jWr_54 _ (List.mem_of_getElem? (i := 18) rfl)) (jWr_54 _ (List.mem_of_getElem? (i := 19) rfl)) (jWr_54 _ (List.mem_of_getElem? (i := 20) rfl)) (jWr_1 _ (List.mem_of_getElem? (i := 5) rfl)) (jWr_54 _ (List.mem_of_getElem? (i := 21) rfl))) rfl rfl rfl (by decide +kernel) ⟨by rw [← hR]; exact Nat.le_of_ble_eq_true rfl, by rw [← hR]; exact Nat.le_of_ble_eq_true rfl⟩) ⟨fun a U g mk q => by obtain ⟨q0, q1, q2, qK, q10, q11, q12⟩ := q; exact ⟨q0, q1, q2, jG.calling g mk a qK, q10, q11, q12⟩, hh_16.recv (C := RX14) (T := TX14) (N := 74) hB16 rfl (by decide) hg_r0 hK, fun U hU hW => ⟨rfl, hU, hh_16.2.1, hG.step hW hU hh_16.1, hg_r0, (hh_16.2.2.1.sub (L1 := [(r0, 16, 6, .int framed_17)]) [0] rfl), by first | omega | (refine ⟨?_, ?_⟩ <;> (first | omega | rfl | assumption | decide | exact Or.inl rfl | exact Or.inr rfl | (simp only; omega)))⟩⟩ rfl rfl hl.1 rfl (lv_room (Nat.le_of_ble_eq_true rfl)) dX14_statementOf_150 ⟨Nat.zero_le _, Nat.zero_le _⟩) hh_16.1 (fun q _ h => h) (fun q h => h) (fun u_13 t_13 H_13 locs_13 ht_13 hvm_13 hr_14 hb_13 hz_13 hk_13 hS_13 => ?_)
                  obtain ⟨qf_13, rfl⟩ : ∃ z, z = u_13 := ⟨_, rfl⟩
                  rw [ht_13] at hb_13
                  obtain ⟨hb_131, hb_132, hb_133, hb_134, hb_135⟩ := hb_13
                  have hh_13 : jSt (dC, dI) B base G0 G0 EX14_statementOfP s.heap 0 0 [(r0, 16, 6, .int qf_13), (r0, 16, 58, .ref kr), (kr, 15, 15, .int pf), (kr, 15, 11, .int py), (kr, 15, 17, .ref zf), (kr, 15, 0, .ref zs), (kr, 15, 1, .ref zn), (kr, 15, 2, .ref za), (kr, 15, 3, .ref zb), (kr, 15, 4, .ref zc), (kr, 15, 14, .ref zy)] [(zf, 160, 16, ca 1, ff), (zs, 150, 120000, ca 1, C.s), (zn, 151, 120000, ca 1, C.n), (za, 152, 120000, ca 1, C.a), (zb, 153, 120000, ca 1, C.b), (zc, 154, 120000, ca 1, C.c), (zy, 165, 16, ca 1, C.y)] [] H_13 locs_13 := ((hh_16.call hb_131 hb_132 hb_133 hb_134 hS_13 rfl (L1 := [(r0, 16, 58, .ref kr), (kr, 15, 15, .int pf), (kr, 15, 11, .int py), (kr, 15, 17, .ref zf), (kr, 15, 0, .ref zs), (kr, 15, 1, .ref zn), (kr, 15, 2, .ref za), (kr, 15, 3, .ref zb), (kr, 15, 4, .ref zc), (kr, 15, 14, .ref zy)]) [1, 2, 3, 4, 5, 6, 7, 8, 9, 10] rfl rfl (M1 := [(zf, 160, 16, ca 1, ff), (zs, 150, 120000, ca 1, C.s), (zn, 151, 120000, ca 1, C.n), (za, 152, 120000, ca 1, C.a), (zb, 153, 120000, ca 1, C.b), (zc, 154, 120000, ca 1, C.c), (zy, 165, 16, ca 1, C.y)]) [0, 1, 2, 3, 4, 5, 6] rfl rfl (I1 := []) [] rfl rfl).more hb_135)
                  clear hh_16 ht_13 hvm_13 hz_13 hk_13 hS_13 hb_131 hb_132 hb_133 hb_134 hb_135
                  obtain ⟨hr_14_0, hr_14_1⟩ := hr_14
                  refine lv_goto (tgt := 163) hx hb dX14_statementOf_153 (by decide) ?_
                  rw [hQ]
                  exact W.vret hx hb hr (fun t ht hW => ⟨⟨(), rfl, trivial, hh_13.rt (M1 := []) [] rfl ht⟩, by rw [ht]; try exact hh_13.1.1, fun q h9 hq => by rw [ht]; try exact hh_13.1.2.1 q h9 hq⟩) hh_13.1.2.2 dX14_statementOf_163
              · skip
                have c_5' : v4_1.toInt ≥ 0 := jb_lt_n (rfl) ((by decide)) c_5
                refine lv_aload_n hx hb dX14_statementOf_101 rfl (lv_at hl 0 rfl) ?_
                refine j7_read hx hb hown hK (C := RX14) (T := TX14) (N := 74) rfl hly_16_58 hlk_122 (hh_3.at 0 rfl) dX14_statementOf_102 ?_
                refine lv_iconst (v := 0) hx hb dX14_statementOf_105 (by decide) ?_
                refine j7_putN hx hb hown hK hh_3 hB hAp hB15 (C := RX13) (T := TX13) (N := 50) rfl (by decide) hg_kr (i := 46) (by decide) hly_15_46 rfl hlk_634 rfl (ty := .int) (v := .int 0) (by decide +kernel) rfl rfl (⟨_, rfl, by omega, by omega⟩) rfl (L1 := [(r0, 16, 58, .ref kr), (kr, 15, 15, .int pf), (kr, 15, 11, .int py), (kr, 15, 17, .ref zf), (kr, 15, 0, .ref zs), (kr, 15, 1, .ref zn), (kr, 15, 2, .ref za), (kr, 15, 3, .ref zb), (kr, 15, 4, .ref zc), (kr, 15, 14, .ref zy)]) [0, 1, 2, 3, 4, 5, 6, 7, 8, 9] rfl rfl rfl dX14_statementOf_106 (fun H_18 locs_18 hh_18 => ?_)
                clear hh_3
                refine lv_aload_n hx hb dX14_statementOf_109 rfl (lv_at hl 0 rfl) ?_
                refine j7_read hx hb hown hK (C := RX14) (T := TX14) (N := 74) rfl hly_16_58 hlk_122 (hh_18.at 1 rfl) dX14_statementOf_110 ?_
                refine lv_aload_n hx hb dX14_statementOf_113 rfl (lv_at hl 0 rfl) ?_
                refine j7_read hx hb hown hK (C := RX14) (T := TX14) (N := 74) rfl hly_16_58 hlk_122 (hh_18.at 1 rfl) dX14_statementOf_114 ?_
                refine j7_readN hx hb hown hK (C := RX13) (T := TX13) (N := 50) rfl hly_15_17 hlk_677 (hh_18.at 4 rfl) dX14_statementOf_117 ?_
                refine lv_iload hx hb dX14_statementOf_120 (lv_at hl 4 rfl) ?_
                refine j7_ialdM hx hb hK hh_18 hB160 1 rfl (by decide) hg_zf (x := v4_1.toInt) (rfl) (by omega) (j := 0) rfl dX14_statementOf_122 (fun z_19 ez_19 (hz_19 : 0 ≤ z_19.toInt ∧ z_19.toInt ≤ 119999) => ?_)
                have hqz_19 : z_19.toInt = jSo ff (v4_1.toInt) := by unfold jSo; rw [ez_19]
                refine va_callv (A0 := jA base) (H0 := s.heap) (va_runV (As := [.int z_19]) (rest := []) ⟨hx, hb, hml, hown, hts⟩ (uX13_printFormula l dC dI ca base B hB hAp hB15 hB101 hB150 hB151 hB152 hB153 hB154 hB155 hB156 hB163 hB164 hB165 hB166 G0 H_18 kr z_19 zs zn za zb zc zy C) (cwV 1 hts (jgV (jWr_72 _ (List.mem_of_getElem? (i := 17) rfl)) (jWr_71 _ (List.mem_of_getElem? (i := 1) rfl)) (jWr_71 _ (List.mem_of_getElem? (i := 2) rfl)) (jWr_12 _ (List.mem_of_getElem? (i := 12) rfl)) (jWr_71 _ (List.mem_of_getElem? (i := 3) rfl))) rfl rfl rfl (by decide +kernel) ⟨by rw [← hR]; exact Nat.le_of_ble_eq_true rfl, by rw [← hR]; exact Nat.le_of_ble_eq_true rfl⟩) ⟨fun a U g mk q => by obtain ⟨q0, q1, q2, qK, q10, q11, q12, q13, q14, q15, q16, q17, q18, q19⟩ := q; exact ⟨q0, q1, q2, jG.calling g mk a qK, q10, q11, q12, q13, q14, q15, q16, q17, q18, q19⟩, hh_18.recv (C := RX13) (T := TX13) (N := 50) hB15 rfl (by decide) hg_kr hK, fun U hU hW => ⟨rfl, hU, hh_18.2.1, hG.step hW hU hh_18.1, hg_kr, hg_zs, hg_zn, hg_za, hg_zb, hg_zc, hg_zy, (hh_18.2.2.1.sub (L1 := [(kr, 15, 0, .ref zs), (kr, 15, 1, .ref zn), (kr, 15, 2, .ref za), (kr, 15, 3, .ref zb), (kr, 15, 4, .ref zc), (kr, 15, 14, .ref zy)]) [5, 6, 7, 8, 9, 10] rfl), (hh_18.2.2.2.2.2.2.2.1.sub (L1 := [(zs, 150, 120000, ca 1, C.s), (zn, 151, 120000, ca 1, C.n), (za, 152, 120000, ca 1, C.a), (zb, 153, 120000, ca 1, C.b), (zc, 154, 120000, ca 1, C.c), (zy, 165, 16, ca 1, C.y)]) [1, 2, 3, 4, 5, 6] rfl), by first | assumption | (rw [hqz_19]; exact (hp0 _ (by omega) (by omega)).1.wide (by omega) (by omega)) | omega⟩⟩ rfl rfl hl.1 rfl (lv_room (Nat.le_of_ble_eq_true rfl)) dX14_statementOf_123 ⟨Nat.zero_le _, Nat.zero_le _⟩) hh_18.1 (fun q _ h => h) (fun q h => h) (fun u_20 t_20 H_20 locs_20 ht_20 hvm_20 hr_21 hb_20 hz_20 hk_20 hS_20 => ?_)
                rw [ht_20] at hb_20
                obtain ⟨hb_201, hb_202, hb_203, hb_204, hb_205⟩ := hb_20
                have hh_20 : jSt (dC, dI) B base G0 G0 EX14_statementOfP s.heap 0 0 [(r0, 16, 58, .ref kr), (kr, 15, 15, .int pf), (kr, 15, 11, .int py), (kr, 15, 17, .ref zf), (kr, 15, 0, .ref zs), (kr, 15, 1, .ref zn), (kr, 15, 2, .ref za), (kr, 15, 3, .ref zb), (kr, 15, 4, .ref zc), (kr, 15, 14, .ref zy)] [(zf, 160, 16, ca 1, ff), (zs, 150, 120000, ca 1, C.s), (zn, 151, 120000, ca 1, C.n), (za, 152, 120000, ca 1, C.a), (zb, 153, 120000, ca 1, C.b), (zc, 154, 120000, ca 1, C.c), (zy, 165, 16, ca 1, C.y)] [] H_20 locs_20 := ((hh_18.call hb_201 hb_202 hb_203 hb_204 hS_20 rfl (L1 := [(r0, 16, 58, .ref kr), (kr, 15, 15, .int pf), (kr, 15, 11, .int py), (kr, 15, 17, .ref zf), (kr, 15, 0, .ref zs), (kr, 15, 1, .ref zn), (kr, 15, 2, .ref za), (kr, 15, 3, .ref zb), (kr, 15, 4, .ref zc), (kr, 15, 14, .ref zy)]) [1, 2, 3, 4, 5, 6, 7, 8, 9, 10] rfl rfl (M1 := [(zf, 160, 16, ca 1, ff), (zs, 150, 120000, ca 1, C.s), (zn, 151, 120000, ca 1, C.n), (za, 152, 120000, ca 1, C.a), (zb, 153, 120000, ca 1, C.b), (zc, 154, 120000, ca 1, C.c), (zy, 165, 16, ca 1, C.y)]) [0, 1, 2, 3, 4, 5, 6] rfl rfl (I1 := []) [] rfl rfl).more hb_205)
                clear hh_18 ht_20 hvm_20 hz_20 hk_20 hS_20 hb_201 hb_202 hb_203 hb_204 hb_205
                refine lv_aload_n hx hb dX14_statementOf_126 rfl (lv_at hl 0 rfl) ?_
                refine lv_iconst (v := 0) hx hb dX14_statementOf_127 (by decide) ?_
                refine va_callv (A0 := jA base) (H0 := s.heap) (va_runV (As := [.int 0]) (rest := []) ⟨hx, hb, hml, hown, hts⟩ (uX14_putLine l dC dI ca base B hB hAp hB15 hB16 hB101 G0 H_20 r0 0) (cwV 1 hts (jgV (jWr_70 _ (List.mem_of_getElem? (i := 11) rfl)) (jWr_70 _ (List.mem_of_getElem? (i := 12) rfl)) (jWr_70 _ (List.mem_of_getElem? (i := 13) rfl)) (jWr_1 _ (List.mem_of_getElem? (i := 5) rfl)) (jWr_70 _ (List.mem_of_getElem? (i := 14) rfl))) rfl rfl rfl (by decide +kernel) ⟨by rw [← hR]; exact Nat.le_of_ble_eq_true rfl, by rw [← hR]; exact Nat.le_of_ble_eq_true rfl⟩) ⟨fun a U g mk q => by obtain ⟨q0, q1, q2, qK, q10, q11, q12⟩ := q; exact ⟨q0, q1, q2, jG.calling g mk a qK, q10, q11, q12⟩, hh_20.recv (C := RX14) (T := TX14) (N := 74) hB16 rfl (by decide) hg_r0 hK, fun U hU hW => ⟨rfl, hU, hh_20.2.1, hG.step hW hU hh_20.1, hg_r0, jP.nil, by first | omega | (refine ⟨?_, ?_⟩ <;> (first | omega | rfl | assumption | decide | exact Or.inl rfl | exact Or.inr rfl | (simp only; omega)))⟩⟩ rfl rfl hl.1 rfl (lv_room (Nat.le_of_ble_eq_true rfl)) dX14_statementOf_128 ⟨Nat.zero_le _, Nat.zero_le _⟩) hh_20.1 (fun q _ h => h) (fun q h => h) (fun u_22 t_22 H_22 locs_22 ht_22 hvm_22 hr_23 hb_22 hz_22 hk_22 hS_22 => ?_)
                rw [ht_22] at hb_22
                obtain ⟨hb_221, hb_222, hb_223, hb_224, hb_225⟩ := hb_22
                have hh_22 : jSt (dC, dI) B base G0 G0 EX14_statementOfP s.heap 0 0 [(r0, 16, 58, .ref kr), (kr, 15, 15, .int pf), (kr, 15, 11, .int py), (kr, 15, 17, .ref zf), (kr, 15, 0, .ref zs), (kr, 15, 1, .ref zn), (kr, 15, 2, .ref za), (kr, 15, 3, .ref zb), (kr, 15, 4, .ref zc), (kr, 15, 14, .ref zy)] [(zf, 160, 16, ca 1, ff), (zs, 150, 120000, ca 1, C.s), (zn, 151, 120000, ca 1, C.n), (za, 152, 120000, ca 1, C.a), (zb, 153, 120000, ca 1, C.b), (zc, 154, 120000, ca 1, C.c), (zy, 165, 16, ca 1, C.y)] [] H_22 locs_22 := ((hh_20.call hb_221 hb_222 hb_223 hb_224 hS_22 rfl (L1 := [(r0, 16, 58, .ref kr), (kr, 15, 15, .int pf), (kr, 15, 11, .int py), (kr, 15, 17, .ref zf), (kr, 15, 0, .ref zs), (kr, 15, 1, .ref zn), (kr, 15, 2, .ref za), (kr, 15, 3, .ref zb), (kr, 15, 4, .ref zc), (kr, 15, 14, .ref zy)]) [0, 1, 2, 3, 4, 5, 6, 7, 8, 9] rfl rfl (M1 := [(zf, 160, 16, ca 1, ff), (zs, 150, 120000, ca 1, C.s), (zn, 151, 120000, ca 1, C.n), (za, 152, 120000, ca 1, C.a), (zb, 153, 120000, ca 1, C.b), (zc, 154, 120000, ca 1, C.c), (zy, 165, 16, ca 1, C.y)]) [0, 1, 2, 3, 4, 5, 6] rfl rfl (I1 := []) [] rfl rfl).more hb_225)
                clear hh_20 ht_22 hvm_22 hz_22 hk_22 hS_22 hb_221 hb_222 hb_223 hb_224 hb_225
                refine lv_goto (tgt := 163) hx hb dX14_statementOf_131 (by decide) ?_
                rw [hQ]
                exact W.vret hx hb hr (fun t ht hW => ⟨⟨(), rfl, trivial, hh_22.rt (M1 := []) [] rfl ht⟩, by rw [ht]; try exact hh_22.1.1, fun q h9 hq => by rw [ht]; try exact hh_22.1.2.1 q h9 hq⟩) hh_22.1.2.2 dX14_statementOf_163
            · skip
              have c_4' : v6_3.toInt < py.toInt := jb_ge_n (rfl) (rfl) c_4
              refine lv_aload_n hx hb dX14_statementOf_66 rfl (lv_at hl 0 rfl) ?_
              refine lv_aload_n hx hb dX14_statementOf_67 rfl (lv_at hl 0 rfl) ?_
              refine j7_read hx hb hown hK (C := RX14) (T := TX14) (N := 74) rfl hly_16_58 hlk_122 (hh_3.at 0 rfl) dX14_statementOf_68 ?_
              obtain ⟨v_24, hv_24, hh_25⟩ := hh_3.pin (C := RX13) (T := TX13) (N := 50) hB15 rfl (by decide) hg_kr (i := 12) (by decide) rfl
              clear hh_3
              obtain ⟨symbol_26, rfl, hg_symbol_26⟩ := hv_24
              refine j7_readN hx hb hown hK (C := RX13) (T := TX13) (N := 50) rfl hly_15_12 hlk_674 (hh_25.at 0 rfl) dX14_statementOf_71 ?_
              refine lv_iload hx hb dX14_statementOf_74 (lv_at hl 6 rfl) ?_
              refine j7_iald hx hb hK hh_25 hB163 1 rfl (by decide) hg_symbol_26 (x := v6_3.toInt) (rfl) (by omega) dX14_statementOf_76 (fun z_27 (hz_27 : 0 ≤ z_27.toInt ∧ z_27.toInt ≤ 1599) => ?_)
              refine lv_aload_n hx hb dX14_statementOf_77 rfl (lv_at hl 1 rfl) ?_
              refine lv_iload_n hx hb dX14_statementOf_78 rfl (lv_at hl 2 rfl) ?_
              refine lv_iload_n hx hb dX14_statementOf_79 rfl (lv_at hl 3 rfl) ?_
              refine va_calli (A0 := jA base) (H0 := s.heap) (va_runV (As := [.int z_27, .ref r1, .int a2, .int a3]) (rest := []) ⟨hx, hb, hml, hown, hts⟩ (uX14_isNamedP l dC dI ca base B hB hAp hB15 hB16 hB127 hB155 hB156 hB166 G0 H_3 r0 z_27 r1 a2 a3 n1) (cwV 4 hts (jgV (jWr_72 _ (List.mem_of_getElem? (i := 13) rfl)) (jWr_72 _ (List.mem_of_getElem? (i := 14) rfl)) (jWr_72 _ (List.mem_of_getElem? (i := 15) rfl)) (jWr_1 _ (List.mem_of_getElem? (i := 5) rfl)) (jWr_72 _ (List.mem_of_getElem? (i := 16) rfl))) rfl rfl rfl (by decide +kernel) ⟨by rw [← hR]; exact Nat.le_of_ble_eq_true rfl, by rw [← hR]; exact Nat.le_of_ble_eq_true rfl⟩) ⟨fun a U g mk q => by obtain ⟨q0, q1, q2, qK, q10, q11, q12, q13⟩ := q; exact ⟨q0, q1, q2, jG.calling g mk a qK, q10, q11, q12, q13⟩, hh_25.recv (C := RX14) (T := TX14) (N := 74) hB16 rfl (by decide) hg_r0 hK, fun U hU hW => ⟨rfl, hU, hh_25.2.1, hG.step hW hU hh_25.1, hg_r1, hg_r0, jP.nil, by first | omega | (refine ⟨?_, ?_, ?_, ?_, ?_⟩ <;> (first | omega | rfl | assumption | decide | exact Or.inl rfl | exact Or.inr rfl | (simp only; omega)))⟩⟩ rfl rfl hl.1 rfl (lv_room (Nat.le_of_ble_eq_true rfl)) dX14_statementOf_80 ⟨Nat.zero_le _, Nat.zero_le _⟩) hh_25.1 (fun q _ h => h) (fun q h => h) (fun r_29 u_28 t_28 H_28 locs_28 ht_28 hvm_28 hr_29 hb_28 hz_28 hk_28 hS_28 => ?_)
              rw [ht_28] at hb_28
              obtain ⟨hb_281, hb_282, hb_283, hb_284, hb_285⟩ := hb_28
              have hh_28 : jSt (dC, dI) B base G0 G0 EX14_statementOfP s.heap 0 0 [(kr, 15, 12, .ref symbol_26), (r0, 16, 58, .ref kr), (kr, 15, 15, .int pf), (kr, 15, 11, .int py), (kr, 15, 17, .ref zf), (kr, 15, 0, .ref zs), (kr, 15, 1, .ref zn), (kr, 15, 2, .ref za), (kr, 15, 3, .ref zb), (kr, 15, 4, .ref zc), (kr, 15, 14, .ref zy)] [(zf, 160, 16, ca 1, ff), (zs, 150, 120000, ca 1, C.s), (zn, 151, 120000, ca 1, C.n), (za, 152, 120000, ca 1, C.a), (zb, 153, 120000, ca 1, C.b), (zc, 154, 120000, ca 1, C.c), (zy, 165, 16, ca 1, C.y)] [] H_28 locs_28 := ((hh_25.call hb_281 hb_282 hb_283 hb_284 hS_28 rfl (L1 := [(kr, 15, 12, .ref symbol_26), (r0, 16, 58, .ref kr), (kr, 15, 15, .int pf), (kr, 15, 11, .int py), (kr, 15, 17, .ref zf), (kr, 15, 0, .ref zs), (kr, 15, 1, .ref zn), (kr, 15, 2, .ref za), (kr, 15, 3, .ref zb), (kr, 15, 4, .ref zc), (kr, 15, 14, .ref zy)]) [0, 1, 2, 3, 4, 5, 6, 7, 8, 9, 10] rfl rfl (M1 := [(zf, 160, 16, ca 1, ff), (zs, 150, 120000, ca 1, C.s), (zn, 151, 120000, ca 1, C.n), (za, 152, 120000, ca 1, C.a), (zb, 153, 120000, ca 1, C.b), (zc, 154, 120000, ca 1, C.c), (zy, 165, 16, ca 1, C.y)]) [0, 1, 2, 3, 4, 5, 6] rfl rfl (I1 := []) [] rfl rfl).more hb_285)
              clear hh_25 ht_28 hvm_28 hz_28 hk_28 hS_28 hb_281 hb_282 hb_283 hb_284 hb_285
              obtain ⟨hr_29b, hr_29p⟩ := hr_29
              have hr_29' := jb_01 hr_29b
              refine lv_if_eq (tgt := 90) hx hb dX14_statementOf_83 (by decide) (fun c_30 => ?_) (fun c_30 => ?_)
              · skip
                have c_30' : r_29.toInt = 0 := jb_eq (rfl) ((by decide)) c_30
                obtain ⟨z_31, ez_31⟩ : ∃ y : Int32, y = v6_3 + 1 := ⟨_, rfl⟩
                refine lv_iinc (v := z_31) (lv' := [(6, .int z_31), (0, .ref r0), (1, .ref r1), (2, .int a2), (3, .int a3), (4, .int v4_1), (5, .int v5_3)]) hx hb dX14_statementOf_90 hl (k := 6) rfl (by rw [ez_31]; rfl) (by decide) rfl (fun ls hl => ?_)
                have hz_31 : z_31.toInt = v6_3.toInt + 1 := by rw [ez_31]; exact jb_iadd2 (rfl) (by decide) (by omega)
                refine lv_goto (tgt := 54) hx hb dX14_statementOf_93 (by decide) ?_
                exact L54 v5_3 z_31 _ _ (hh_28.sub (L1 := [(r0, 16, 58, .ref kr), (kr, 15, 15, .int pf), (kr, 15, 11, .int py), (kr, 15, 17, .ref zf), (kr, 15, 0, .ref zs), (kr, 15, 1, .ref zn), (kr, 15, 2, .ref za), (kr, 15, 3, .ref zb), (kr, 15, 4, .ref zc), (kr, 15, 14, .ref zy)]) [1, 2, 3, 4, 5, 6, 7, 8, 9, 10] rfl (M1 := [(zf, 160, 16, ca 1, ff), (zs, 150, 120000, ca 1, C.s), (zn, 151, 120000, ca 1, C.n), (za, 152, 120000, ca 1, C.a), (zb, 153, 120000, ca 1, C.b), (zc, 154, 120000, ca 1, C.c), (zy, 165, 16, ca 1, C.y)]) [0, 1, 2, 3, 4, 5, 6] rfl (I1 := []) [] rfl) (by first | omega | (refine ⟨?_, ?_, ?_, ?_⟩ <;> (first | omega | rfl | assumption | decide | exact Or.inl rfl | exact Or.inr rfl | (simp only; omega)))) (by omega) _ (lv_sub hl [1, 2, 3, 4, 5, 6, 0] rfl)
              · skip
                have c_30' : r_29.toInt ≠ 0 := jb_eq_n (rfl) ((by decide)) c_30
                refine lv_iload hx hb dX14_statementOf_86 (lv_at hl 6 rfl) ?_
                refine lv_istore (lv' := [(5, .int v6_3), (0, .ref r0), (1, .ref r1), (2, .int a2), (3, .int a3), (4, .int v4_1), (6, .int v6_3)]) hx hb dX14_statementOf_88 hl (by decide) rfl (fun ls hl => ?_)
                obtain ⟨z_32, ez_32⟩ : ∃ y : Int32, y = v6_3 + 1 := ⟨_, rfl⟩
                refine lv_iinc (v := z_32) (lv' := [(6, .int z_32), (5, .int v6_3), (0, .ref r0), (1, .ref r1), (2, .int a2), (3, .int a3), (4, .int v4_1)]) hx hb dX14_statementOf_90 hl (k := 6) rfl (by rw [ez_32]; rfl) (by decide) rfl (fun ls hl => ?_)
                have hz_32 : z_32.toInt = v6_3.toInt + 1 := by rw [ez_32]; exact jb_iadd2 (rfl) (by decide) (by omega)
                refine lv_goto (tgt := 54) hx hb dX14_statementOf_93 (by decide) ?_
                exact L54 v6_3 z_32 _ _ (hh_28.sub (L1 := [(r0, 16, 58, .ref kr), (kr, 15, 15, .int pf), (kr, 15, 11, .int py), (kr, 15, 17, .ref zf), (kr, 15, 0, .ref zs), (kr, 15, 1, .ref zn), (kr, 15, 2, .ref za), (kr, 15, 3, .ref zb), (kr, 15, 4, .ref zc), (kr, 15, 14, .ref zy)]) [1, 2, 3, 4, 5, 6, 7, 8, 9, 10] rfl (M1 := [(zf, 160, 16, ca 1, ff), (zs, 150, 120000, ca 1, C.s), (zn, 151, 120000, ca 1, C.n), (za, 152, 120000, ca 1, C.a), (zb, 153, 120000, ca 1, C.b), (zc, 154, 120000, ca 1, C.c), (zy, 165, 16, ca 1, C.y)]) [0, 1, 2, 3, 4, 5, 6] rfl (I1 := []) [] rfl) (by first | omega | (refine ⟨?_, ?_, ?_, ?_⟩ <;> (first | omega | rfl | assumption | decide | exact Or.inl rfl | exact Or.inr rfl | (simp only; omega)))) (by omega) _ (lv_sub hl [2, 3, 4, 5, 6, 1, 0] rfl)
        exact L54 (py.toInt - (0 : Int32).toInt : Int).toNat.succ (-1) 0 _ _ hh_1 (by first | omega | (refine ⟨?_, ?_, ?_, ?_⟩ <;> (first | omega | rfl | assumption | decide | exact Or.inl rfl | exact Or.inr rfl | (simp only; omega)))) (by omega) _ (lv_sub hl [1, 2, 3, 4, 5, 6, 0] rfl)
      · skip
        have c_2' : v6_1.toInt < pf.toInt := jb_ge_n (rfl) (rfl) c_2
        refine lv_aload_n hx hb dX14_statementOf_21 rfl (lv_at hl 0 rfl) ?_
        refine lv_aload_n hx hb dX14_statementOf_22 rfl (lv_at hl 0 rfl) ?_
        refine j7_read hx hb hown hK (C := RX14) (T := TX14) (N := 74) rfl hly_16_58 hlk_122 (hh_1.at 0 rfl) dX14_statementOf_23 ?_
        obtain ⟨v_33, hv_33, hh_34⟩ := hh_1.pin (C := RX13) (T := TX13) (N := 50) hB15 rfl (by decide) hg_kr (i := 16) (by decide) rfl
        clear hh_1
        obtain ⟨factName_35, rfl, hg_factName_35⟩ := hv_33
        refine j7_readN hx hb hown hK (C := RX13) (T := TX13) (N := 50) rfl hly_15_16 hlk_664 (hh_34.at 0 rfl) dX14_statementOf_26 ?_
        refine lv_iload hx hb dX14_statementOf_29 (lv_at hl 6 rfl) ?_
        refine j7_iald hx hb hK hh_34 hB163 1 rfl (by decide) hg_factName_35 (x := v6_1.toInt) (rfl) (by omega) dX14_statementOf_31 (fun z_36 (hz_36 : 0 ≤ z_36.toInt ∧ z_36.toInt ≤ 1599) => ?_)
        refine lv_aload_n hx hb dX14_statementOf_32 rfl (lv_at hl 1 rfl) ?_
        refine lv_iload_n hx hb dX14_statementOf_33 rfl (lv_at hl 2 rfl) ?_
        refine lv_iload_n hx hb dX14_statementOf_34 rfl (lv_at hl 3 rfl) ?_
        refine va_calli (A0 := jA base) (H0 := s.heap) (va_runV (As := [.int z_36, .ref r1, .int a2, .int a3]) (rest := []) ⟨hx, hb, hml, hown, hts⟩ (uX14_isNamedP l dC dI ca base B hB hAp hB15 hB16 hB127 hB155 hB156 hB166 G0 H_1 r0 z_36 r1 a2 a3 n1) (cwV 4 hts (jgV (jWr_72 _ (List.mem_of_getElem? (i := 13) rfl)) (jWr_72 _ (List.mem_of_getElem? (i := 14) rfl)) (jWr_72 _ (List.mem_of_getElem? (i := 15) rfl)) (jWr_1 _ (List.mem_of_getElem? (i := 5) rfl)) (jWr_72 _ (List.mem_of_getElem? (i := 16) rfl))) rfl rfl rfl (by decide +kernel) ⟨by rw [← hR]; exact Nat.le_of_ble_eq_true rfl, by rw [← hR]; exact Nat.le_of_ble_eq_true rfl⟩) ⟨fun a U g mk q => by obtain ⟨q0, q1, q2, qK, q10, q11, q12, q13⟩ := q; exact ⟨q0, q1, q2, jG.calling g mk a qK, q10, q11, q12, q13⟩, hh_34.recv (C := RX14) (T := TX14) (N := 74) hB16 rfl (by decide) hg_r0 hK, fun U hU hW => ⟨rfl, hU, hh_34.2.1, hG.step hW hU hh_34.1, hg_r1, hg_r0, jP.nil, by first | omega | (refine ⟨?_, ?_, ?_, ?_, ?_⟩ <;> (first | omega | rfl | assumption | decide | exact Or.inl rfl | exact Or.inr rfl | (simp only; omega)))⟩⟩ rfl rfl hl.1 rfl (lv_room (Nat.le_of_ble_eq_true rfl)) dX14_statementOf_35 ⟨Nat.zero_le _, Nat.zero_le _⟩) hh_34.1 (fun q _ h => h) (fun q h => h) (fun r_38 u_37 t_37 H_37 locs_37 ht_37 hvm_37 hr_38 hb_37 hz_37 hk_37 hS_37 => ?_)
        rw [ht_37] at hb_37
        obtain ⟨hb_371, hb_372, hb_373, hb_374, hb_375⟩ := hb_37
        have hh_37 : jSt (dC, dI) B base G0 G0 EX14_statementOfP s.heap 0 0 [(kr, 15, 16, .ref factName_35), (r0, 16, 58, .ref kr), (kr, 15, 15, .int pf), (kr, 15, 11, .int py), (kr, 15, 17, .ref zf), (kr, 15, 0, .ref zs), (kr, 15, 1, .ref zn), (kr, 15, 2, .ref za), (kr, 15, 3, .ref zb), (kr, 15, 4, .ref zc), (kr, 15, 14, .ref zy)] [(zf, 160, 16, ca 1, ff), (zs, 150, 120000, ca 1, C.s), (zn, 151, 120000, ca 1, C.n), (za, 152, 120000, ca 1, C.a), (zb, 153, 120000, ca 1, C.b), (zc, 154, 120000, ca 1, C.c), (zy, 165, 16, ca 1, C.y)] [] H_37 locs_37 := ((hh_34.call hb_371 hb_372 hb_373 hb_374 hS_37 rfl (L1 := [(kr, 15, 16, .ref factName_35), (r0, 16, 58, .ref kr), (kr, 15, 15, .int pf), (kr, 15, 11, .int py), (kr, 15, 17, .ref zf), (kr, 15, 0, .ref zs), (kr, 15, 1, .ref zn), (kr, 15, 2, .ref za), (kr, 15, 3, .ref zb), (kr, 15, 4, .ref zc), (kr, 15, 14, .ref zy)]) [0, 1, 2, 3, 4, 5, 6, 7, 8, 9, 10] rfl rfl (M1 := [(zf, 160, 16, ca 1, ff), (zs, 150, 120000, ca 1, C.s), (zn, 151, 120000, ca 1, C.n), (za, 152, 120000, ca 1, C.a), (zb, 153, 120000, ca 1, C.b), (zc, 154, 120000, ca 1, C.c), (zy, 165, 16, ca 1, C.y)]) [0, 1, 2, 3, 4, 5, 6] rfl rfl (I1 := []) [] rfl rfl).more hb_375)
        clear hh_34 ht_37 hvm_37 hz_37 hk_37 hS_37 hb_371 hb_372 hb_373 hb_374 hb_375
        obtain ⟨hr_38b, hr_38p⟩ := hr_38
        have hr_38' := jb_01 hr_38b
        refine lv_if_eq (tgt := 45) hx hb dX14_statementOf_38 (by decide) (fun c_39 => ?_) (fun c_39 => ?_)
        · skip
          have c_39' : r_38.toInt = 0 := jb_eq (rfl) ((by decide)) c_39
          obtain ⟨z_40, ez_40⟩ : ∃ y : Int32, y = v6_1 + 1 := ⟨_, rfl⟩
          refine lv_iinc (v := z_40) (lv' := [(6, .int z_40), (0, .ref r0), (1, .ref r1), (2, .int a2), (3, .int a3), (4, .int v4_1), (5, .int (-1))]) hx hb dX14_statementOf_45 hl (k := 6) rfl (by rw [ez_40]; rfl) (by decide) rfl (fun ls hl => ?_)
          have hz_40 : z_40.toInt = v6_1.toInt + 1 := by rw [ez_40]; exact jb_iadd2 (rfl) (by decide) (by omega)
          refine lv_goto (tgt := 9) hx hb dX14_statementOf_48 (by decide) ?_
          exact L9 v4_1 z_40 _ _ (hh_37.sub (L1 := [(r0, 16, 58, .ref kr), (kr, 15, 15, .int pf), (kr, 15, 11, .int py), (kr, 15, 17, .ref zf), (kr, 15, 0, .ref zs), (kr, 15, 1, .ref zn), (kr, 15, 2, .ref za), (kr, 15, 3, .ref zb), (kr, 15, 4, .ref zc), (kr, 15, 14, .ref zy)]) [1, 2, 3, 4, 5, 6, 7, 8, 9, 10] rfl (M1 := [(zf, 160, 16, ca 1, ff), (zs, 150, 120000, ca 1, C.s), (zn, 151, 120000, ca 1, C.n), (za, 152, 120000, ca 1, C.a), (zb, 153, 120000, ca 1, C.b), (zc, 154, 120000, ca 1, C.c), (zy, 165, 16, ca 1, C.y)]) [0, 1, 2, 3, 4, 5, 6] rfl (I1 := []) [] rfl) (by first | omega | (refine ⟨?_, ?_, ?_, ?_⟩ <;> (first | omega | rfl | assumption | decide | exact Or.inl rfl | exact Or.inr rfl | (simp only; omega)))) (by omega) _ (lv_sub hl [1, 2, 3, 4, 5, 6, 0] rfl)
        · skip
          have c_39' : r_38.toInt ≠ 0 := jb_eq_n (rfl) ((by decide)) c_39
          refine lv_iload hx hb dX14_statementOf_41 (lv_at hl 6 rfl) ?_
          refine lv_istore (lv' := [(4, .int v6_1), (0, .ref r0), (1, .ref r1), (2, .int a2), (3, .int a3), (5, .int (-1)), (6, .int v6_1)]) hx hb dX14_statementOf_43 hl (by decide) rfl (fun ls hl => ?_)
          obtain ⟨z_41, ez_41⟩ : ∃ y : Int32, y = v6_1 + 1 := ⟨_, rfl⟩
          refine lv_iinc (v := z_41) (lv' := [(6, .int z_41), (4, .int v6_1), (0, .ref r0), (1, .ref r1), (2, .int a2), (3, .int a3), (5, .int (-1))]) hx hb dX14_statementOf_45 hl (k := 6) rfl (by rw [ez_41]; rfl) (by decide) rfl (fun ls hl => ?_)
          have hz_41 : z_41.toInt = v6_1.toInt + 1 := by rw [ez_41]; exact jb_iadd2 (rfl) (by decide) (by omega)
          refine lv_goto (tgt := 9) hx hb dX14_statementOf_48 (by decide) ?_
          exact L9 v6_1 z_41 _ _ (hh_37.sub (L1 := [(r0, 16, 58, .ref kr), (kr, 15, 15, .int pf), (kr, 15, 11, .int py), (kr, 15, 17, .ref zf), (kr, 15, 0, .ref zs), (kr, 15, 1, .ref zn), (kr, 15, 2, .ref za), (kr, 15, 3, .ref zb), (kr, 15, 4, .ref zc), (kr, 15, 14, .ref zy)]) [1, 2, 3, 4, 5, 6, 7, 8, 9, 10] rfl (M1 := [(zf, 160, 16, ca 1, ff), (zs, 150, 120000, ca 1, C.s), (zn, 151, 120000, ca 1, C.n), (za, 152, 120000, ca 1, C.a), (zb, 153, 120000, ca 1, C.b), (zc, 154, 120000, ca 1, C.c), (zy, 165, 16, ca 1, C.y)]) [0, 1, 2, 3, 4, 5, 6] rfl (I1 := []) [] rfl) (by first | omega | (refine ⟨?_, ?_, ?_, ?_⟩ <;> (first | omega | rfl | assumption | decide | exact Or.inl rfl | exact Or.inr rfl | (simp only; omega)))) (by omega) _ (lv_sub hl [2, 3, 4, 5, 1, 6, 0] rfl)
  exact L9 (pf.toInt - (0 : Int32).toInt : Int).toNat.succ (-1) 0 _ _ hh (by first | omega | (refine ⟨?_, ?_, ?_, ?_⟩ <;> (first | omega | rfl | assumption | decide | exact Or.inl rfl | exact Or.inr rfl | (simp only; omega)))) (by omega) _ (lv_sub hl [3, 4, 5, 6, 2, 1, 0] rfl)
set_option maxHeartbeats 4000000 in
set_option maxRecDepth 20000 in
theorem uX14_askStatement (l : Launch) (dC : Nat → ClassId) (dI : Nat → Nat → Nat) (ca : Nat → ClassId) (base : Nat) (B : jF) (hB : jBok B) (hAp : jAp (dC, dI)) (hB14 : ∀ n G a H, B 14 n G a H ↔ jOb (dC, dI) 14 11 (F14 n G) a H) (hB15 : ∀ n G a H, B 15 n G a H ↔ jOb (dC, dI) 15 50 (F15 n G) a H) (hB16 : ∀ n G a H, B 16 n G a H ↔ jOb (dC, dI) 16 74 (F16 n G) a H) (hB101 : ∀ n G a H, B 101 n G a H ↔ jAr (dC, dI) (ca 1) (fun j z => True) n a H) (hB103 : ∀ n G a H, B 103 n G a H ↔ jAr (dC, dI) (ca 3) (fun j z => (z = 0 ∨ z = 1)) n a H) (hB117 : ∀ n G a H, B 117 n G a H ↔ jAr (dC, dI) (ca 1) (fun j z => True) n a H) (hB118 : ∀ n G a H, B 118 n G a H ↔ jAr (dC, dI) (ca 1) (fun j z => -1 ≤ z.toInt ∧ z.toInt ≤ 3099) n a H) (hB119 : ∀ n G a H, B 119 n G a H ↔ jAr (dC, dI) (ca 1) (fun j z => z.toInt = -1 ∨ (j < z.toInt ∧ z.toInt ≤ 3099)) n a H) (hB120 : ∀ n G a H, B 120 n G a H ↔ jAr (dC, dI) (ca 1) (fun j z => 0 ≤ z.toInt ∧ z.toInt ≤ 3300) n a H) (hB121 : ∀ n G a H, B 121 n G a H ↔ jAr (dC, dI) (ca 1) (fun j z => 0 ≤ z.toInt ∧ z.toInt ≤ 3300) n a H) (hB122 : ∀ n G a H, B 122 n G a H ↔ jAr (dC, dI) (ca 1) (fun j z => 0 ≤ z.toInt ∧ z.toInt ≤ 3100) n a H) (hB123 : ∀ n G a H, B 123 n G a H ↔ jAr (dC, dI) (ca 1) (fun j z => 0 ≤ z.toInt ∧ z.toInt ≤ 3100) n a H) (hB127 : ∀ n G a H, B 127 n G a H ↔ jAr (dC, dI) (ca 1) (fun j z => True) n a H) (hB150 : ∀ n G a H, B 150 n G a H ↔ jAr (dC, dI) (ca 1) (fun j z => True) n a H) (hB151 : ∀ n G a H, B 151 n G a H ↔ jAr (dC, dI) (ca 1) (fun j z => True) n a H) (hB152 : ∀ n G a H, B 152 n G a H ↔ jAr (dC, dI) (ca 1) (fun j z => True) n a H) (hB153 : ∀ n G a H, B 153 n G a H ↔ jAr (dC, dI) (ca 1) (fun j z => True) n a H) (hB154 : ∀ n G a H, B 154 n G a H ↔ jAr (dC, dI) (ca 1) (fun j z => True) n a H) (hB155 : ∀ n G a H, B 155 n G a H ↔ jAr (dC, dI) (ca 1) (fun j z => 0 ≤ z.toInt ∧ z.toInt ≤ 11990) n a H) (hB156 : ∀ n G a H, B 156 n G a H ↔ jAr (dC, dI) (ca 1) (fun j z => 0 ≤ z.toInt ∧ z.toInt ≤ 10) n a H) (hB157 : ∀ n G a H, B 157 n G a H ↔ jAr (dC, dI) (ca 1) (fun j z => 0 ≤ z.toInt ∧ z.toInt ≤ 1599) n a H) (hB158 : ∀ n G a H, B 158 n G a H ↔ jAr (dC, dI) (ca 1) (fun j z => 0 ≤ z.toInt ∧ z.toInt ≤ 6) n a H) (hB159 : ∀ n G a H, B 159 n G a H ↔ jAr (dC, dI) (ca 1) (fun j z => 0 ≤ z.toInt ∧ z.toInt ≤ 8) n a H) (hB160 : ∀ n G a H, B 160 n G a H ↔ jAr (dC, dI) (ca 1) (fun j z => 0 ≤ z.toInt ∧ z.toInt ≤ 119999) n a H) (hB161 : ∀ n G a H, B 161 n G a H ↔ jAr (dC, dI) (ca 1) (fun j z => 0 ≤ z.toInt ∧ z.toInt ≤ 119999) n a H) (hB162 : ∀ n G a H, B 162 n G a H ↔ jAr (dC, dI) (ca 1) (fun j z => 0 ≤ z.toInt ∧ z.toInt ≤ 119999) n a H) (hB163 : ∀ n G a H, B 163 n G a H ↔ jAr (dC, dI) (ca 1) (fun j z => 0 ≤ z.toInt ∧ z.toInt ≤ 1599) n a H) (hB164 : ∀ n G a H, B 164 n G a H ↔ jAr (dC, dI) (ca 1) (fun j z => 0 ≤ z.toInt ∧ z.toInt ≤ 100000) n a H) (hB165 : ∀ n G a H, B 165 n G a H ↔ jAr (dC, dI) (ca 1) (fun j z => 0 ≤ z.toInt ∧ z.toInt ≤ 3) n a H) (hB166 : ∀ n G a H, B 166 n G a H ↔ jAr (dC, dI) (ca 1) (fun j z => True) n a H) (hB167 : ∀ n G a H, B 167 n G a H ↔ jAr (dC, dI) (ca 1) (fun j z => True) n a H) (hB168 : ∀ n G a H, B 168 n G a H ↔ jAr (dC, dI) (ca 1) (fun j z => 0 ≤ z.toInt ∧ z.toInt ≤ 119999) n a H) (hB169 : ∀ n G a H, B 169 n G a H ↔ jAr (dC, dI) (ca 1) (fun j z => True) n a H) (hB190 : ∀ n G a H, B 190 n G a H ↔ jAr (dC, dI) (ca 1) (fun j z => 0 ≤ z.toInt ∧ z.toInt ≤ 1500) n a H) (hB191 : ∀ n G a H, B 191 n G a H ↔ jAr (dC, dI) (ca 1) (fun j z => 0 ≤ z.toInt ∧ z.toInt ≤ 1500) n a H) (hB192 : ∀ n G a H, B 192 n G a H ↔ jAr (dC, dI) (ca 1) (fun j z => 0 ≤ z.toInt ∧ z.toInt ≤ 2) n a H) (hB201 : ∀ n G a H, B 201 n G a H ↔ jAq (dC, dI) (ca 4) (jQs 14 0) n G a H) (hB202 : ∀ n G a H, B 202 n G a H ↔ jAq (dC, dI) (ca 4) (jQn 14 0) n G a H) (hB203 : ∀ n G a H, B 203 n G a H ↔ jAr (dC, dI) (ca 1) (fun j z => -3300 ≤ z.toInt ∧ z.toInt ≤ 20) n a H) (hB204 : ∀ n G a H, B 204 n G a H ↔ jAr (dC, dI) (ca 1) (fun j z => -3100 ≤ z.toInt ∧ z.toInt ≤ 3100) n a H) (hB206 : ∀ n G a H, B 206 n G a H ↔ jAr (dC, dI) (ca 1) (fun j z => 0 ≤ z.toInt ∧ z.toInt ≤ 40) n a H) (G0 : jT) (H0 : Heap) (r0 : Nat) (a1 : Int32) (dd : Nat) (dc : Int32) (co : Nat) (cs : Nat) (ol : Nat) (nw : Nat) (td : Nat) (sn ck : Nat → Int32) (fd fo : Nat → Option Nat) (fs : Nat → Int32) : Met l yX14_askStatement (jw yX14_askStatement cX14_askStatement 6 none) ({ frames := 1705, cells := 0, slots := 0, locals := 71931 }) (va_Pc [.ref r0, .int a1] (fun U => U.heap = H0 ∧ jX B base G0 [] H0 ∧ jG dC dI ca base U ∧ jK2 dC dI ca U ∧ G0 r0 = some (16, 0) ∧ G0 dd = some (201, 3) ∧ G0 co = some (208, 2) ∧ G0 cs = some (207, 2) ∧ G0 ol = some (14, 0) ∧ G0 nw = some (14, 0) ∧ G0 td = some (14, 0) ∧ jP (dC, dI) G0 H0 [(r0, 16, 41, .ref dd), (r0, 16, 42, .int dc), (r0, 16, 60, .ref co), (r0, 16, 61, .ref cs), (r0, 16, 46, .ref ol), (r0, 16, 47, .ref nw), (r0, 16, 71, .ref td)] ∧ jMc (dC, dI) G0 H0 [(cs, 207, 2, ca 1, fs)] ∧ jIs (dC, dI) G0 H0 [(jFs, jDY dC dI ca G0 none sn), (jF9, jVl dC dI G0 9 ck), ([(201, 0)], jQc dC dI (ca 4) dd 3 fd), ([(208, 0)], jQc dC dI (ca 4) co 2 fo)] ∧ jPu sn ck fd fo fs dc.toInt ol nw td ∧ a1.toInt ≤ 3099)) (va_Qv (S := Unit) (fun u => True) (fun u t => jRt (dC, dI) B base G0 EX14_askStatement H0 [] t.heap) (jA base)) 0 0 (jA base) := by
  refine Met.ofW (cc := cX14_askStatement) (maxL := 6) (ret := none) (by decide) rfl ?_
  intro p e s m args below meth c s₁ Bd hml hv
  obtain ⟨rfl, hH0, hX, hG, hK2, hg_r0, hg_dd, hg_co, hg_cs, hg_ol, hg_nw, hg_td, hP0, hM0, hI0, hp0, hp1⟩ := hv
  have hK := hG.1
  have hx := Bd.exec
  have hb := Bd.bytes
  have hr := Bd.returns
  have hts := atoms_spec (ws := (jw yX14_askStatement cX14_askStatement 6 none)) Bd.pre
  have htw : ∀ w ∈ jWl, w.before _ s = true := fun w h => hts w (List.mem_cons_of_mem _ h)
  have hown : s.vm.findClass RX14 = some m.cls := findClass_of_methodNamed Bd.named
  have hlocks := Bd.notSynchronized
  obtain ⟨Q, hQ⟩ : ∃ Q, Q = MQ below (va_Qv (S := Unit) (fun u => True) (fun u t => jRt (dC, dI) B base G0 EX14_askStatement H0 [] t.heap) (jA base)) ([.ref r0, .int a1] : List Value).toArray s 0 0 (jA base) := ⟨_, rfl⟩
  rw [← hQ]
  have hl := lv_entry ([.ref r0, .int a1]) (n := 6) (Nat.le_of_ble_eq_true rfl)
  rw [lg_entry_eq]
  generalize (lg_sl ([.ref r0, .int a1]) ++ List.replicate (6 - (lg_sl ([.ref r0, .int a1])).length) Slot.unset).toArray = ls at hl ⊢
  have hl : lv_has ls 6 [(0, .ref r0), (1, .int a1)] := hl
  generalize hR : (headSpec (jw yX14_askStatement cX14_askStatement 6 none) ({ frames := 1705, cells := 0, slots := 0, locals := 71931 })).room = R
  subst hH0
  have hh : jSt (dC, dI) B base G0 G0 EX14_askStatement s.heap 0 0 [(r0, 16, 41, .ref dd), (r0, 16, 42, .int dc), (r0, 16, 60, .ref co), (r0, 16, 61, .ref cs), (r0, 16, 46, .ref ol), (r0, 16, 47, .ref nw), (r0, 16, 71, .ref td)] [(cs, 207, 2, ca 1, fs)] [(jFs, jDY dC dI ca G0 none sn), (jF9, jVl dC dI G0 9 ck), ([(201, 0)], jQc dC dI (ca 4) dd 3 fd), ([(208, 0)], jQc dC dI (ca 4) co 2 fo)] s.heap [] := jSt.start hX hP0 hM0 hI0
  clear hX hP0
  have hkm32602 : ((-32602) : Int32).toInt = (-32602) := by decide
  have hk0 : (0 : Int32).toInt = 0 := by decide
  have hk1 : (1 : Int32).toInt = 1 := by decide
  have hk3100 : (3100 : Int32).toInt = 3100 := by decide
  have hly_14_5 := htw (u_lay RX12 TX12 5) (jWc_wsX120 _ (u_in_lay (by decide)))
  have hly_14_9 := htw (u_lay RX12 TX12 9) (jWc_wsX120 _ (u_in_lay (by decide)))
  have hly_16_22 := htw (u_lay RX14 TX14 22) (jWc_wsX140 _ (u_in_lay (by decide)))
  have hly_16_23 := htw (u_lay RX14 TX14 23) (jWc_wsX140 _ (u_in_lay (by decide)))
  have hly_16_27 := htw (u_lay RX14 TX14 27) (jWc_wsX140 _ (u_in_lay (by decide)))
  have hly_16_48 := htw (u_lay RX14 TX14 48) (jWc_wsX140 _ (u_in_lay (by decide)))
  have hly_16_56 := htw (u_lay RX14 TX14 56) (jWc_wsX140 _ (u_in_lay (by decide)))
  have hly_16_57 := htw (u_lay RX14 TX14 57) (jWc_wsX140 _ (u_in_lay (by decide)))
  obtain ⟨str514, rstr514, hstr5140⟩ := hG.strT (o := RX14) (k := 514) (tx := "textDocument") (List.mem_of_getElem? (i := 2486) (by decide +kernel))
  have hTstr514 : jStrF base str514 12 (jChT "textDocument") s s.heap := hstr5140.F (by decide +kernel)
  have hstr514 : jStr base str514 12 s s.heap := hTstr514.str
  obtain ⟨str516, rstr516, hstr5160⟩ := hG.strT (o := RX14) (k := 516) (tx := "uri") (List.mem_of_getElem? (i := 2487) (by decide +kernel))
  have hTstr516 : jStrF base str516 3 (jChT "uri") s s.heap := hstr5160.F (by decide +kernel)
  have hstr516 : jStr base str516 3 s s.heap := hTstr516.str
  obtain ⟨str707, rstr707, hstr7070⟩ := hG.strT (o := RX14) (k := 707) (tx := "name") (List.mem_of_getElem? (i := 2965) (by decide +kernel))
  have hTstr707 : jStrF base str707 4 (jChT "name") s s.heap := hstr7070.F (by decide +kernel)
  have hstr707 : jStr base str707 4 s s.heap := hTstr707.str
  have hlk_531 := (va_Nw.use (A := ([.ref r0, .int a1] : List Value).toArray) rfl (hG.2.1 RX14 531 "ProofServerModel$Document" "checked" "I" "ProofServerModel" (List.mem_of_getElem? (i := 1744) (by decide +kernel))))
  have hlk_587 := (va_Nw.use (A := ([.ref r0, .int a1] : List Value).toArray) rfl (hG.2.1 RX14 587 "ProofServerModel$Document" "sentences" "I" "ProofServerModel" (List.mem_of_getElem? (i := 1737) (by decide +kernel))))
  have hlk_65 := (htw (.fieldLink RX14 65 "ProofServerModel" "pool" "[I") (jWr_11 _ (List.mem_of_getElem? (i := 14) rfl)))
  have hlk_52 := (htw (.fieldLink RX14 52 "ProofServerModel" "from" "[I") (jWr_11 _ (List.mem_of_getElem? (i := 9) rfl)))
  have hlk_55 := (htw (.fieldLink RX14 55 "ProofServerModel" "to" "[I") (jWr_11 _ (List.mem_of_getElem? (i := 10) rfl)))
  have hlk_711 := (htw (.fieldLink RX14 711 "ProofServerModel" "waits" "I") (jWr_58 _ (List.mem_of_getElem? (i := 11) rfl)))
  have hlk_116 := (htw (.fieldLink RX14 116 "ProofServerModel" "waitNameLength" "[I") (jWr_12 _ (List.mem_of_getElem? (i := 9) rfl)))
  have hlk_113 := (htw (.fieldLink RX14 113 "ProofServerModel" "waitName" "[I") (jWr_12 _ (List.mem_of_getElem? (i := 8) rfl)))
  have hrg_a1 := jb_rng a1
  refine lv_aload_n hx hb dX14_askStatement_0 rfl (lv_at hl 0 rfl) ?_
  refine lv_aload_n hx hb dX14_askStatement_1 rfl (lv_at hl 0 rfl) ?_
  refine lv_aload_n hx hb dX14_askStatement_2 rfl (lv_at hl 0 rfl) ?_
  refine lv_iload_n hx hb dX14_askStatement_3 rfl (lv_at hl 1 rfl) ?_
  refine j_ldcSw hx hb hown rstr514 dX14_askStatement_4 ?_
  obtain ⟨v_3, hv_3, hh_4⟩ := hh.pin (C := RX14) (T := TX14) (N := 74) hB16 rfl (by decide) hg_r0 (i := 17) (by decide) rfl
  obtain ⟨sort_5, rfl, hg_sort_5⟩ := hv_3
  obtain ⟨v_6, hv_6, hh_7⟩ := hh_4.pin (C := RX14) (T := TX14) (N := 74) hB16 rfl (by decide) hg_r0 (i := 18) (by decide) rfl
  obtain ⟨heir_8, rfl, hg_heir_8⟩ := hv_6
  obtain ⟨v_9, hv_9, hh_10⟩ := hh_7.pin (C := RX14) (T := TX14) (N := 74) hB16 rfl (by decide) hg_r0 (i := 19) (by decide) rfl
  obtain ⟨next_11, rfl, hg_next_11⟩ := hv_9
  obtain ⟨v_12, hv_12, hh_13⟩ := hh_10.pin (C := RX14) (T := TX14) (N := 74) hB16 rfl (by decide) hg_r0 (i := 20) (by decide) rfl
  obtain ⟨nameFrom_14, rfl, hg_nameFrom_14⟩ := hv_12
  obtain ⟨v_15, hv_15, hh_16⟩ := hh_13.pin (C := RX14) (T := TX14) (N := 74) hB16 rfl (by decide) hg_r0 (i := 21) (by decide) rfl
  obtain ⟨nameTo_17, rfl, hg_nameTo_17⟩ := hv_15
  obtain ⟨v_18, hv_18, hh_19⟩ := hh_16.pin (C := RX14) (T := TX14) (N := 74) hB16 rfl (by decide) hg_r0 (i := 27) (by decide) rfl
  obtain ⟨pool_20, rfl, hg_pool_20⟩ := hv_18
  obtain ⟨f_ms_21, hh_21⟩ := hh_19.cpin hB117 (by decide) (by decide) hg_sort_5
  clear hh_19
  obtain ⟨f_mh_22, hh_22⟩ := hh_21.cpin hB118 (by decide) (by decide) hg_heir_8
  clear hh_21
  obtain ⟨f_mx_23, hh_23⟩ := hh_22.cpin hB119 (by decide) (by decide) hg_next_11
  clear hh_22
  obtain ⟨f_mf_24, hh_24⟩ := hh_23.cpin hB120 (by decide) (by decide) hg_nameFrom_14
  clear hh_23
  obtain ⟨f_mt_25, hh_25⟩ := hh_24.cpin hB121 (by decide) (by decide) hg_nameTo_17
  clear hh_24
  obtain ⟨f_mp_26, hh_26⟩ := hh_25.cpin hB127 (by decide) (by decide) hg_pool_20
  clear hh_25
  refine va_calli (A0 := jA base) (H0 := s.heap) (va_runV (As := [.int a1, .ref str514]) (rest := [.ref r0, .ref r0]) ⟨hx, hb, hml, hown, hts⟩ (uX14_memberK l dC dI ca base B hB hAp hB16 hB117 hB118 hB119 hB120 hB121 hB127 G0 s.heap r0 a1 str514 12 (jChT "textDocument") sort_5 heir_8 next_11 nameFrom_14 nameTo_17 pool_20 f_ms_21 f_mh_22 f_mx_23 f_mf_24 f_mt_25 f_mp_26) (cwV 2 hts (jgV (jWr_55 _ (List.mem_of_getElem? (i := 15) rfl)) (jWr_55 _ (List.mem_of_getElem? (i := 16) rfl)) (jWr_55 _ (List.mem_of_getElem? (i := 17) rfl)) (jWr_1 _ (List.mem_of_getElem? (i := 5) rfl)) (jWr_55 _ (List.mem_of_getElem? (i := 18) rfl))) rfl rfl rfl (by decide +kernel) ⟨by rw [← hR]; exact Nat.le_of_ble_eq_true rfl, by rw [← hR]; exact Nat.le_of_ble_eq_true rfl⟩) ⟨fun a U g mk q => by obtain ⟨q0, q1, q2, qK, q10, q11, q12, q13, q14, q15, q16, q17, q18, q19, q20⟩ := q; exact ⟨q0, q1, q2, jG.calling g mk a qK, (q10.moved (Vm.Alike.refl U.vm)), q11, q12, q13, q14, q15, q16, q17, q18, q19, q20⟩, hh_26.recv (C := RX14) (T := TX14) (N := 74) hB16 rfl (by decide) hg_r0 hK, fun U hU hW => ⟨rfl, hU, hh_26.2.1, hG.step hW hU hh_26.1, (hTstr514.moved hW.alike).kept hh_26.1.2.1, hg_r0, hg_sort_5, hg_heir_8, hg_next_11, hg_nameFrom_14, hg_nameTo_17, hg_pool_20, (hh_26.2.2.1.sub (L1 := [(r0, 16, 17, .ref sort_5), (r0, 16, 18, .ref heir_8), (r0, 16, 19, .ref next_11), (r0, 16, 20, .ref nameFrom_14), (r0, 16, 21, .ref nameTo_17), (r0, 16, 27, .ref pool_20)]) [5, 4, 3, 2, 1, 0] rfl), (hh_26.2.2.2.2.2.2.2.1.sub (L1 := [(sort_5, 117, 3100, ca 1, f_ms_21), (heir_8, 118, 3100, ca 1, f_mh_22), (next_11, 119, 3100, ca 1, f_mx_23), (nameFrom_14, 120, 3100, ca 1, f_mf_24), (nameTo_17, 121, 3100, ca 1, f_mt_25), (pool_20, 127, 3300, ca 1, f_mp_26)]) [5, 4, 3, 2, 1, 0] rfl), by first | omega | (refine ⟨?_, ?_⟩ <;> (first | omega | rfl | assumption | decide | exact Or.inl rfl | exact Or.inr rfl | (simp only; omega)))⟩⟩ rfl rfl hl.1 rfl (lv_room (Nat.le_of_ble_eq_true rfl)) dX14_askStatement_7 ⟨Nat.zero_le _, Nat.zero_le _⟩) hh_26.1 (fun q _ h => h) (fun q h => h) (fun r_2 u_1 t_1 H_1 locs_1 ht_1 hvm_1 hr_2 hb_1 hz_1 hk_1 hS_1 => ?_)
  rw [ht_1] at hb_1
  obtain ⟨hb_11, hb_12, hb_13, hb_14, hb_15⟩ := hb_1
  have hh_1 : jSt (dC, dI) B base G0 G0 EX14_askStatement s.heap 0 0 [(r0, 16, 27, .ref pool_20), (r0, 16, 21, .ref nameTo_17), (r0, 16, 20, .ref nameFrom_14), (r0, 16, 19, .ref next_11), (r0, 16, 18, .ref heir_8), (r0, 16, 17, .ref sort_5), (r0, 16, 41, .ref dd), (r0, 16, 42, .int dc), (r0, 16, 60, .ref co), (r0, 16, 61, .ref cs), (r0, 16, 46, .ref ol), (r0, 16, 47, .ref nw), (r0, 16, 71, .ref td)] [(pool_20, 127, 3300, ca 1, f_mp_26), (nameTo_17, 121, 3100, ca 1, f_mt_25), (nameFrom_14, 120, 3100, ca 1, f_mf_24), (next_11, 119, 3100, ca 1, f_mx_23), (heir_8, 118, 3100, ca 1, f_mh_22), (sort_5, 117, 3100, ca 1, f_ms_21), (cs, 207, 2, ca 1, fs)] [(jFs, jDY dC dI ca G0 none sn), (jF9, jVl dC dI G0 9 ck), ([(201, 0)], jQc dC dI (ca 4) dd 3 fd), ([(208, 0)], jQc dC dI (ca 4) co 2 fo)] H_1 locs_1 := ((hh_26.call hb_11 hb_12 hb_13 hb_14 hS_1 rfl (L1 := [(r0, 16, 27, .ref pool_20), (r0, 16, 21, .ref nameTo_17), (r0, 16, 20, .ref nameFrom_14), (r0, 16, 19, .ref next_11), (r0, 16, 18, .ref heir_8), (r0, 16, 17, .ref sort_5), (r0, 16, 41, .ref dd), (r0, 16, 42, .int dc), (r0, 16, 60, .ref co), (r0, 16, 61, .ref cs), (r0, 16, 46, .ref ol), (r0, 16, 47, .ref nw), (r0, 16, 71, .ref td)]) [0, 1, 2, 3, 4, 5, 6, 7, 8, 9, 10, 11, 12] rfl rfl (M1 := [(pool_20, 127, 3300, ca 1, f_mp_26), (nameTo_17, 121, 3100, ca 1, f_mt_25), (nameFrom_14, 120, 3100, ca 1, f_mf_24), (next_11, 119, 3100, ca 1, f_mx_23), (heir_8, 118, 3100, ca 1, f_mh_22), (sort_5, 117, 3100, ca 1, f_ms_21), (cs, 207, 2, ca 1, fs)]) [0, 1, 2, 3, 4, 5, 6] rfl rfl (I1 := [(jFs, jDY dC dI ca G0 none sn), (jF9, jVl dC dI G0 9 ck), ([(201, 0)], jQc dC dI (ca 4) dd 3 fd), ([(208, 0)], jQc dC dI (ca 4) co 2 fo)]) [0, 1, 2, 3] rfl rfl).more hb_15)
  clear hh_26 ht_1 hvm_1 hz_1 hk_1 hS_1 hb_11 hb_12 hb_13 hb_14 hb_15
  obtain ⟨hr_2_0, hr_2_1, hr_2_2⟩ := hr_2
  refine j_ldcSw hx hb hown rstr516 dX14_askStatement_10 ?_
  refine va_calli (A0 := jA base) (H0 := s.heap) (va_runV (As := [.int r_2, .ref str516]) (rest := [.ref r0]) ⟨hx, hb, hml, hown, hts⟩ (uX14_memberK l dC dI ca base B hB hAp hB16 hB117 hB118 hB119 hB120 hB121 hB127 G0 H_1 r0 r_2 str516 3 (jChT "uri") sort_5 heir_8 next_11 nameFrom_14 nameTo_17 pool_20 f_ms_21 f_mh_22 f_mx_23 f_mf_24 f_mt_25 f_mp_26) (cwV 2 hts (jgV (jWr_55 _ (List.mem_of_getElem? (i := 15) rfl)) (jWr_55 _ (List.mem_of_getElem? (i := 16) rfl)) (jWr_55 _ (List.mem_of_getElem? (i := 17) rfl)) (jWr_1 _ (List.mem_of_getElem? (i := 5) rfl)) (jWr_55 _ (List.mem_of_getElem? (i := 18) rfl))) rfl rfl rfl (by decide +kernel) ⟨by rw [← hR]; exact Nat.le_of_ble_eq_true rfl, by rw [← hR]; exact Nat.le_of_ble_eq_true rfl⟩) ⟨fun a U g mk q => by obtain ⟨q0, q1, q2, qK, q10, q11, q12, q13, q14, q15, q16, q17, q18, q19, q20⟩ := q; exact ⟨q0, q1, q2, jG.calling g mk a qK, (q10.moved (Vm.Alike.refl U.vm)), q11, q12, q13, q14, q15, q16, q17, q18, q19, q20⟩, hh_1.recv (C := RX14) (T := TX14) (N := 74) hB16 rfl (by decide) hg_r0 hK, fun U hU hW => ⟨rfl, hU, hh_1.2.1, hG.step hW hU hh_1.1, (hTstr516.moved hW.alike).kept hh_1.1.2.1, hg_r0, hg_sort_5, hg_heir_8, hg_next_11, hg_nameFrom_14, hg_nameTo_17, hg_pool_20, (hh_1.2.2.1.sub (L1 := [(r0, 16, 17, .ref sort_5), (r0, 16, 18, .ref heir_8), (r0, 16, 19, .ref next_11), (r0, 16, 20, .ref nameFrom_14), (r0, 16, 21, .ref nameTo_17), (r0, 16, 27, .ref pool_20)]) [5, 4, 3, 2, 1, 0] rfl), (hh_1.2.2.2.2.2.2.2.1.sub (L1 := [(sort_5, 117, 3100, ca 1, f_ms_21), (heir_8, 118, 3100, ca 1, f_mh_22), (next_11, 119, 3100, ca 1, f_mx_23), (nameFrom_14, 120, 3100, ca 1, f_mf_24), (nameTo_17, 121, 3100, ca 1, f_mt_25), (pool_20, 127, 3300, ca 1, f_mp_26)]) [5, 4, 3, 2, 1, 0] rfl), by first | omega | (refine ⟨?_, ?_⟩ <;> (first | omega | rfl | assumption | decide | exact Or.inl rfl | exact Or.inr rfl | (simp only; omega)))⟩⟩ rfl rfl hl.1 rfl (lv_room (Nat.le_of_ble_eq_true rfl)) dX14_askStatement_13 ⟨Nat.zero_le _, Nat.zero_le _⟩) hh_1.1 (fun q _ h => h) (fun q h => h) (fun r_28 u_27 t_27 H_27 locs_27 ht_27 hvm_27 hr_28 hb_27 hz_27 hk_27 hS_27 => ?_)
  rw [ht_27] at hb_27
  obtain ⟨hb_271, hb_272, hb_273, hb_274, hb_275⟩ := hb_27
  have hh_27 : jSt (dC, dI) B base G0 G0 EX14_askStatement s.heap 0 0 [(r0, 16, 27, .ref pool_20), (r0, 16, 21, .ref nameTo_17), (r0, 16, 20, .ref nameFrom_14), (r0, 16, 19, .ref next_11), (r0, 16, 18, .ref heir_8), (r0, 16, 17, .ref sort_5), (r0, 16, 41, .ref dd), (r0, 16, 42, .int dc), (r0, 16, 60, .ref co), (r0, 16, 61, .ref cs), (r0, 16, 46, .ref ol), (r0, 16, 47, .ref nw), (r0, 16, 71, .ref td)] [(pool_20, 127, 3300, ca 1, f_mp_26), (nameTo_17, 121, 3100, ca 1, f_mt_25), (nameFrom_14, 120, 3100, ca 1, f_mf_24), (next_11, 119, 3100, ca 1, f_mx_23), (heir_8, 118, 3100, ca 1, f_mh_22), (sort_5, 117, 3100, ca 1, f_ms_21), (cs, 207, 2, ca 1, fs)] [(jFs, jDY dC dI ca G0 none sn), (jF9, jVl dC dI G0 9 ck), ([(201, 0)], jQc dC dI (ca 4) dd 3 fd), ([(208, 0)], jQc dC dI (ca 4) co 2 fo)] H_27 locs_27 := ((hh_1.call hb_271 hb_272 hb_273 hb_274 hS_27 rfl (L1 := [(r0, 16, 27, .ref pool_20), (r0, 16, 21, .ref nameTo_17), (r0, 16, 20, .ref nameFrom_14), (r0, 16, 19, .ref next_11), (r0, 16, 18, .ref heir_8), (r0, 16, 17, .ref sort_5), (r0, 16, 41, .ref dd), (r0, 16, 42, .int dc), (r0, 16, 60, .ref co), (r0, 16, 61, .ref cs), (r0, 16, 46, .ref ol), (r0, 16, 47, .ref nw), (r0, 16, 71, .ref td)]) [0, 1, 2, 3, 4, 5, 6, 7, 8, 9, 10, 11, 12] rfl rfl (M1 := [(pool_20, 127, 3300, ca 1, f_mp_26), (nameTo_17, 121, 3100, ca 1, f_mt_25), (nameFrom_14, 120, 3100, ca 1, f_mf_24), (next_11, 119, 3100, ca 1, f_mx_23), (heir_8, 118, 3100, ca 1, f_mh_22), (sort_5, 117, 3100, ca 1, f_ms_21), (cs, 207, 2, ca 1, fs)]) [0, 1, 2, 3, 4, 5, 6] rfl rfl (I1 := [(jFs, jDY dC dI ca G0 none sn), (jF9, jVl dC dI G0 9 ck), ([(201, 0)], jQc dC dI (ca 4) dd 3 fd), ([(208, 0)], jQc dC dI (ca 4) co 2 fo)]) [0, 1, 2, 3] rfl rfl).more hb_275)
  clear hh_1 ht_27 hvm_27 hz_27 hk_27 hS_27 hb_271 hb_272 hb_273 hb_274 hb_275
  obtain ⟨hr_28_0, hr_28_1, hr_28_2⟩ := hr_28
  refine j_callx (A0 := jA base) (H0 := s.heap) (va_runV (As := [.int r_28]) (rest := []) ⟨hx, hb, hml, hown, hts⟩ (uX14_documentOfK l dC dI ca base B hB hAp hB14 hB16 hB101 hB117 hB122 hB123 hB127 hB201 G0 H_27 r0 r_28 dd dc co cs ol nw td sn ck fd fo fs) (cwV 1 hts (jgV (jWr_57 _ (List.mem_of_getElem? (i := 6) rfl)) (jWr_57 _ (List.mem_of_getElem? (i := 7) rfl)) (jWr_57 _ (List.mem_of_getElem? (i := 8) rfl)) (jWr_1 _ (List.mem_of_getElem? (i := 5) rfl)) (jWr_57 _ (List.mem_of_getElem? (i := 9) rfl))) rfl rfl rfl (by decide +kernel) ⟨by rw [← hR]; exact Nat.le_of_ble_eq_true rfl, by rw [← hR]; exact Nat.le_of_ble_eq_true rfl⟩) ⟨fun a U g mk q => by obtain ⟨q0, q1, q2, qK, q10, q11, q12, q13, q14, q15, q16, q17, q18, q19, q20, q21⟩ := q; exact ⟨q0, q1, q2, jG.calling g mk a qK, (va_K.moved (Vm.Alike.refl U.vm) q10), q11, q12, q13, q14, q15, q16, q17, q18, q19, q20, q21⟩, hh_27.recv (C := RX14) (T := TX14) (N := 74) hB16 rfl (by decide) hg_r0 hK, fun U hU hW => ⟨rfl, hU, hh_27.2.1, hG.step hW hU hh_27.1, va_K.moved hW.alike hK2, hg_r0, hg_dd, hg_co, hg_cs, hg_ol, hg_nw, hg_td, (hh_27.2.2.1.sub (L1 := [(r0, 16, 41, .ref dd), (r0, 16, 42, .int dc), (r0, 16, 60, .ref co), (r0, 16, 61, .ref cs), (r0, 16, 46, .ref ol), (r0, 16, 47, .ref nw), (r0, 16, 71, .ref td)]) [6, 7, 8, 9, 10, 11, 12] rfl), (hh_27.2.2.2.2.2.2.2.1.sub (L1 := [(cs, 207, 2, ca 1, fs)]) [6] rfl), (hh_27.2.2.2.2.2.2.2.2.sub (L1 := [(jFs, jDY dC dI ca G0 none sn), (jF9, jVl dC dI G0 9 ck), ([(201, 0)], jQc dC dI (ca 4) dd 3 fd), ([(208, 0)], jQc dC dI (ca 4) co 2 fo)]) [0, 1, 2, 3] rfl), by first | omega | (refine ⟨?_, ?_⟩ <;> (first | omega | rfl | assumption | decide | exact Or.inl rfl | exact Or.inr rfl | (simp only; omega)))⟩⟩ rfl rfl hl.1 rfl (lv_room (Nat.le_of_ble_eq_true rfl)) dX14_askStatement_16 ⟨Nat.zero_le _, Nat.zero_le _⟩) hh_27.1 (fun q _ h => h) (fun q h => h) (fun r_30 u_29 t_29 H_29 locs_29 ht_29 hvm_29 hr_30 hb_29 hz_29 hk_29 hS_29 => ?_)
  rw [ht_29] at hb_29
  obtain ⟨hb_291, hb_292, hb_293, hb_294, hb_295⟩ := hb_29
  have hh_29 : jSt (dC, dI) B base G0 G0 EX14_askStatement s.heap 0 0 [(r0, 16, 27, .ref pool_20), (r0, 16, 21, .ref nameTo_17), (r0, 16, 20, .ref nameFrom_14), (r0, 16, 19, .ref next_11), (r0, 16, 18, .ref heir_8), (r0, 16, 17, .ref sort_5), (r0, 16, 41, .ref dd), (r0, 16, 42, .int dc), (r0, 16, 60, .ref co), (r0, 16, 61, .ref cs), (r0, 16, 46, .ref ol), (r0, 16, 47, .ref nw), (r0, 16, 71, .ref td)] [(pool_20, 127, 3300, ca 1, f_mp_26), (nameTo_17, 121, 3100, ca 1, f_mt_25), (nameFrom_14, 120, 3100, ca 1, f_mf_24), (next_11, 119, 3100, ca 1, f_mx_23), (heir_8, 118, 3100, ca 1, f_mh_22), (sort_5, 117, 3100, ca 1, f_ms_21), (cs, 207, 2, ca 1, fs)] [(jFs, jDY dC dI ca G0 none sn), (jF9, jVl dC dI G0 9 ck), ([(201, 0)], jQc dC dI (ca 4) dd 3 fd), ([(208, 0)], jQc dC dI (ca 4) co 2 fo)] H_29 locs_29 := ((hh_27.call hb_291 hb_292 hb_293 hb_294 hS_29 rfl (L1 := [(r0, 16, 27, .ref pool_20), (r0, 16, 21, .ref nameTo_17), (r0, 16, 20, .ref nameFrom_14), (r0, 16, 19, .ref next_11), (r0, 16, 18, .ref heir_8), (r0, 16, 17, .ref sort_5), (r0, 16, 41, .ref dd), (r0, 16, 42, .int dc), (r0, 16, 60, .ref co), (r0, 16, 61, .ref cs), (r0, 16, 46, .ref ol), (r0, 16, 47, .ref nw), (r0, 16, 71, .ref td)]) [0, 1, 2, 3, 4, 5, 6, 7, 8, 9, 10, 11, 12] rfl rfl (M1 := [(pool_20, 127, 3300, ca 1, f_mp_26), (nameTo_17, 121, 3100, ca 1, f_mt_25), (nameFrom_14, 120, 3100, ca 1, f_mf_24), (next_11, 119, 3100, ca 1, f_mx_23), (heir_8, 118, 3100, ca 1, f_mh_22), (sort_5, 117, 3100, ca 1, f_ms_21), (cs, 207, 2, ca 1, fs)]) [0, 1, 2, 3, 4, 5, 6] rfl rfl (I1 := [(jFs, jDY dC dI ca G0 none sn), (jF9, jVl dC dI G0 9 ck), ([(201, 0)], jQc dC dI (ca 4) dd 3 fd), ([(208, 0)], jQc dC dI (ca 4) co 2 fo)]) [0, 1, 2, 3] rfl rfl).more hb_295)
  clear hh_27 ht_29 hvm_29 hz_29 hk_29 hS_29 hb_291 hb_292 hb_293 hb_294 hb_295
  rcases hr_30 with rfl | ⟨ret_31, rfl, hg_ret_31, hp_ret_31⟩
  · skip
    refine j7_nst_n (lv' := [(2, .null), (0, .ref r0), (1, .int a1)]) hx hb dX14_askStatement_19 rfl hl (by decide) rfl (fun ls hl => ?_)
    refine lv_aload_n hx hb dX14_askStatement_20 rfl (lv_at hl 1 rfl) ?_
    refine lv_iload_n hx hb dX14_askStatement_21 rfl (lv_at hl 2 rfl) ?_
    refine j_ldcSw hx hb hown rstr707 dX14_askStatement_22 ?_
    refine va_calli (A0 := jA base) (H0 := s.heap) (va_runV (As := [.int a1, .ref str707]) (rest := []) ⟨hx, hb, hml, hown, hts⟩ (uX14_memberK l dC dI ca base B hB hAp hB16 hB117 hB118 hB119 hB120 hB121 hB127 G0 H_29 r0 a1 str707 4 (jChT "name") sort_5 heir_8 next_11 nameFrom_14 nameTo_17 pool_20 f_ms_21 f_mh_22 f_mx_23 f_mf_24 f_mt_25 f_mp_26) (cwV 2 hts (jgV (jWr_55 _ (List.mem_of_getElem? (i := 15) rfl)) (jWr_55 _ (List.mem_of_getElem? (i := 16) rfl)) (jWr_55 _ (List.mem_of_getElem? (i := 17) rfl)) (jWr_1 _ (List.mem_of_getElem? (i := 5) rfl)) (jWr_55 _ (List.mem_of_getElem? (i := 18) rfl))) rfl rfl rfl (by decide +kernel) ⟨by rw [← hR]; exact Nat.le_of_ble_eq_true rfl, by rw [← hR]; exact Nat.le_of_ble_eq_true rfl⟩) ⟨fun a U g mk q => by obtain ⟨q0, q1, q2, qK, q10, q11, q12, q13, q14, q15, q16, q17, q18, q19, q20⟩ := q; exact ⟨q0, q1, q2, jG.calling g mk a qK, (q10.moved (Vm.Alike.refl U.vm)), q11, q12, q13, q14, q15, q16, q17, q18, q19, q20⟩, hh_29.recv (C := RX14) (T := TX14) (N := 74) hB16 rfl (by decide) hg_r0 hK, fun U hU hW => ⟨rfl, hU, hh_29.2.1, hG.step hW hU hh_29.1, (hTstr707.moved hW.alike).kept hh_29.1.2.1, hg_r0, hg_sort_5, hg_heir_8, hg_next_11, hg_nameFrom_14, hg_nameTo_17, hg_pool_20, (hh_29.2.2.1.sub (L1 := [(r0, 16, 17, .ref sort_5), (r0, 16, 18, .ref heir_8), (r0, 16, 19, .ref next_11), (r0, 16, 20, .ref nameFrom_14), (r0, 16, 21, .ref nameTo_17), (r0, 16, 27, .ref pool_20)]) [5, 4, 3, 2, 1, 0] rfl), (hh_29.2.2.2.2.2.2.2.1.sub (L1 := [(sort_5, 117, 3100, ca 1, f_ms_21), (heir_8, 118, 3100, ca 1, f_mh_22), (next_11, 119, 3100, ca 1, f_mx_23), (nameFrom_14, 120, 3100, ca 1, f_mf_24), (nameTo_17, 121, 3100, ca 1, f_mt_25), (pool_20, 127, 3300, ca 1, f_mp_26)]) [5, 4, 3, 2, 1, 0] rfl), by first | omega | (refine ⟨?_, ?_⟩ <;> (first | omega | rfl | assumption | decide | exact Or.inl rfl | exact Or.inr rfl | (simp only; omega)))⟩⟩ rfl rfl hl.1 rfl (lv_room (Nat.le_of_ble_eq_true rfl)) dX14_askStatement_25 ⟨Nat.zero_le _, Nat.zero_le _⟩) hh_29.1 (fun q _ h => h) (fun q h => h) (fun r_33 u_32 t_32 H_32 locs_32 ht_32 hvm_32 hr_33 hb_32 hz_32 hk_32 hS_32 => ?_)
    rw [ht_32] at hb_32
    obtain ⟨hb_321, hb_322, hb_323, hb_324, hb_325⟩ := hb_32
    have hh_32 : jSt (dC, dI) B base G0 G0 EX14_askStatement s.heap 0 0 [(r0, 16, 27, .ref pool_20), (r0, 16, 21, .ref nameTo_17), (r0, 16, 20, .ref nameFrom_14), (r0, 16, 19, .ref next_11), (r0, 16, 18, .ref heir_8), (r0, 16, 17, .ref sort_5), (r0, 16, 41, .ref dd), (r0, 16, 42, .int dc), (r0, 16, 60, .ref co), (r0, 16, 61, .ref cs), (r0, 16, 46, .ref ol), (r0, 16, 47, .ref nw), (r0, 16, 71, .ref td)] [(pool_20, 127, 3300, ca 1, f_mp_26), (nameTo_17, 121, 3100, ca 1, f_mt_25), (nameFrom_14, 120, 3100, ca 1, f_mf_24), (next_11, 119, 3100, ca 1, f_mx_23), (heir_8, 118, 3100, ca 1, f_mh_22), (sort_5, 117, 3100, ca 1, f_ms_21), (cs, 207, 2, ca 1, fs)] [(jFs, jDY dC dI ca G0 none sn), (jF9, jVl dC dI G0 9 ck), ([(201, 0)], jQc dC dI (ca 4) dd 3 fd), ([(208, 0)], jQc dC dI (ca 4) co 2 fo)] H_32 locs_32 := ((hh_29.call hb_321 hb_322 hb_323 hb_324 hS_32 rfl (L1 := [(r0, 16, 27, .ref pool_20), (r0, 16, 21, .ref nameTo_17), (r0, 16, 20, .ref nameFrom_14), (r0, 16, 19, .ref next_11), (r0, 16, 18, .ref heir_8), (r0, 16, 17, .ref sort_5), (r0, 16, 41, .ref dd), (r0, 16, 42, .int dc), (r0, 16, 60, .ref co), (r0, 16, 61, .ref cs), (r0, 16, 46, .ref ol), (r0, 16, 47, .ref nw), (r0, 16, 71, .ref td)]) [0, 1, 2, 3, 4, 5, 6, 7, 8, 9, 10, 11, 12] rfl rfl (M1 := [(pool_20, 127, 3300, ca 1, f_mp_26), (nameTo_17, 121, 3100, ca 1, f_mt_25), (nameFrom_14, 120, 3100, ca 1, f_mf_24), (next_11, 119, 3100, ca 1, f_mx_23), (heir_8, 118, 3100, ca 1, f_mh_22), (sort_5, 117, 3100, ca 1, f_ms_21), (cs, 207, 2, ca 1, fs)]) [0, 1, 2, 3, 4, 5, 6] rfl rfl (I1 := [(jFs, jDY dC dI ca G0 none sn), (jF9, jVl dC dI G0 9 ck), ([(201, 0)], jQc dC dI (ca 4) dd 3 fd), ([(208, 0)], jQc dC dI (ca 4) co 2 fo)]) [0, 1, 2, 3] rfl rfl).more hb_325)
    clear hh_29 ht_32 hvm_32 hz_32 hk_32 hS_32 hb_321 hb_322 hb_323 hb_324 hb_325
    obtain ⟨hr_33_0, hr_33_1, hr_33_2⟩ := hr_33
    refine lv_istore_n (lv' := [(3, .int r_33), (2, .null), (0, .ref r0), (1, .int a1)]) hx hb dX14_askStatement_28 rfl hl (by decide) rfl (fun ls hl => ?_)
    refine j7_nld_n hx hb dX14_askStatement_29 rfl (lv_at hl 1 rfl) ?_
    refine lv_ifnullN (tgt := 41) hx hb dX14_askStatement_30 (by decide) ?_
    refine lv_aload_n hx hb dX14_askStatement_41 rfl (lv_at hl 2 rfl) ?_
    refine lv_sipush (v := (-32602)) hx hb dX14_askStatement_42 (by decide) ?_
    refine va_callv (A0 := jA base) (H0 := s.heap) (va_runV (As := [.int (-32602)]) (rest := []) ⟨hx, hb, hml, hown, hts⟩ (uX14_error l dC dI ca base B hB hAp hB16 hB101 G0 H_32 r0 (-32602)) (cwV 1 hts (jgV (jWr_53 _ (List.mem_of_getElem? (i := 9) rfl)) (jWr_53 _ (List.mem_of_getElem? (i := 10) rfl)) (jWr_53 _ (List.mem_of_getElem? (i := 11) rfl)) (jWr_1 _ (List.mem_of_getElem? (i := 5) rfl)) (jWr_53 _ (List.mem_of_getElem? (i := 12) rfl))) rfl rfl rfl (by decide +kernel) ⟨by rw [← hR]; exact Nat.le_of_ble_eq_true rfl, by rw [← hR]; exact Nat.le_of_ble_eq_true rfl⟩) ⟨fun a U g mk q => by obtain ⟨q0, q1, q2, qK, q10, q11, q12⟩ := q; exact ⟨q0, q1, q2, jG.calling g mk a qK, q10, q11, q12⟩, hh_32.recv (C := RX14) (T := TX14) (N := 74) hB16 rfl (by decide) hg_r0 hK, fun U hU hW => ⟨rfl, hU, hh_32.2.1, hG.step hW hU hh_32.1, hg_r0, jP.nil, trivial⟩⟩ rfl rfl hl.1 rfl (lv_room (Nat.le_of_ble_eq_true rfl)) dX14_askStatement_45 ⟨Nat.zero_le _, Nat.zero_le _⟩) hh_32.1 (fun q _ h => h) (fun q h => h) (fun u_34 t_34 H_34 locs_34 ht_34 hvm_34 hr_35 hb_34 hz_34 hk_34 hS_34 => ?_)
    rw [ht_34] at hb_34
    obtain ⟨hb_341, hb_342, hb_343, hb_344, hb_345⟩ := hb_34
    have hh_34 : jSt (dC, dI) B base G0 G0 EX14_askStatement s.heap 0 0 [(r0, 16, 27, .ref pool_20), (r0, 16, 21, .ref nameTo_17), (r0, 16, 20, .ref nameFrom_14), (r0, 16, 19, .ref next_11), (r0, 16, 18, .ref heir_8), (r0, 16, 17, .ref sort_5), (r0, 16, 41, .ref dd), (r0, 16, 42, .int dc), (r0, 16, 60, .ref co), (r0, 16, 61, .ref cs), (r0, 16, 46, .ref ol), (r0, 16, 47, .ref nw), (r0, 16, 71, .ref td)] [(pool_20, 127, 3300, ca 1, f_mp_26), (nameTo_17, 121, 3100, ca 1, f_mt_25), (nameFrom_14, 120, 3100, ca 1, f_mf_24), (next_11, 119, 3100, ca 1, f_mx_23), (heir_8, 118, 3100, ca 1, f_mh_22), (sort_5, 117, 3100, ca 1, f_ms_21), (cs, 207, 2, ca 1, fs)] [(jFs, jDY dC dI ca G0 none sn), (jF9, jVl dC dI G0 9 ck), ([(201, 0)], jQc dC dI (ca 4) dd 3 fd), ([(208, 0)], jQc dC dI (ca 4) co 2 fo)] H_34 locs_34 := ((hh_32.call hb_341 hb_342 hb_343 hb_344 hS_34 rfl (L1 := [(r0, 16, 27, .ref pool_20), (r0, 16, 21, .ref nameTo_17), (r0, 16, 20, .ref nameFrom_14), (r0, 16, 19, .ref next_11), (r0, 16, 18, .ref heir_8), (r0, 16, 17, .ref sort_5), (r0, 16, 41, .ref dd), (r0, 16, 42, .int dc), (r0, 16, 60, .ref co), (r0, 16, 61, .ref cs), (r0, 16, 46, .ref ol), (r0, 16, 47, .ref nw), (r0, 16, 71, .ref td)]) [0, 1, 2, 3, 4, 5, 6, 7, 8, 9, 10, 11, 12] rfl rfl (M1 := [(pool_20, 127, 3300, ca 1, f_mp_26), (nameTo_17, 121, 3100, ca 1, f_mt_25), (nameFrom_14, 120, 3100, ca 1, f_mf_24), (next_11, 119, 3100, ca 1, f_mx_23), (heir_8, 118, 3100, ca 1, f_mh_22), (sort_5, 117, 3100, ca 1, f_ms_21), (cs, 207, 2, ca 1, fs)]) [0, 1, 2, 3, 4, 5, 6] rfl rfl (I1 := [(jFs, jDY dC dI ca G0 none sn), (jF9, jVl dC dI G0 9 ck), ([(201, 0)], jQc dC dI (ca 4) dd 3 fd), ([(208, 0)], jQc dC dI (ca 4) co 2 fo)]) [0, 1, 2, 3] rfl rfl).more hb_345)
    clear hh_32 ht_34 hvm_34 hz_34 hk_34 hS_34 hb_341 hb_342 hb_343 hb_344 hb_345
    refine lv_goto (tgt := 199) hx hb dX14_askStatement_48 (by decide) ?_
    rw [hQ]
    exact W.vret hx hb hr (fun t ht hW => ⟨⟨(), rfl, trivial, hh_34.rt (M1 := []) [] rfl ht⟩, by rw [ht]; try exact hh_34.1.1, fun q h9 hq => by rw [ht]; try exact hh_34.1.2.1 q h9 hq⟩) hh_34.1.2.2 dX14_askStatement_199
  · skip
    refine lv_astore_n (lv' := [(2, .ref ret_31), (0, .ref r0), (1, .int a1)]) hx hb dX14_askStatement_19 rfl hl (by decide) rfl (fun ls hl => ?_)
    refine lv_aload_n hx hb dX14_askStatement_20 rfl (lv_at hl 1 rfl) ?_
    refine lv_iload_n hx hb dX14_askStatement_21 rfl (lv_at hl 2 rfl) ?_
    refine j_ldcSw hx hb hown rstr707 dX14_askStatement_22 ?_
    refine va_calli (A0 := jA base) (H0 := s.heap) (va_runV (As := [.int a1, .ref str707]) (rest := []) ⟨hx, hb, hml, hown, hts⟩ (uX14_memberK l dC dI ca base B hB hAp hB16 hB117 hB118 hB119 hB120 hB121 hB127 G0 H_29 r0 a1 str707 4 (jChT "name") sort_5 heir_8 next_11 nameFrom_14 nameTo_17 pool_20 f_ms_21 f_mh_22 f_mx_23 f_mf_24 f_mt_25 f_mp_26) (cwV 2 hts (jgV (jWr_55 _ (List.mem_of_getElem? (i := 15) rfl)) (jWr_55 _ (List.mem_of_getElem? (i := 16) rfl)) (jWr_55 _ (List.mem_of_getElem? (i := 17) rfl)) (jWr_1 _ (List.mem_of_getElem? (i := 5) rfl)) (jWr_55 _ (List.mem_of_getElem? (i := 18) rfl))) rfl rfl rfl (by decide +kernel) ⟨by rw [← hR]; exact Nat.le_of_ble_eq_true rfl, by rw [← hR]; exact Nat.le_of_ble_eq_true rfl⟩) ⟨fun a U g mk q => by obtain ⟨q0, q1, q2, qK, q10, q11, q12, q13, q14, q15, q16, q17, q18, q19, q20⟩ := q; exact ⟨q0, q1, q2, jG.calling g mk a qK, (q10.moved (Vm.Alike.refl U.vm)), q11, q12, q13, q14, q15, q16, q17, q18, q19, q20⟩, hh_29.recv (C := RX14) (T := TX14) (N := 74) hB16 rfl (by decide) hg_r0 hK, fun U hU hW => ⟨rfl, hU, hh_29.2.1, hG.step hW hU hh_29.1, (hTstr707.moved hW.alike).kept hh_29.1.2.1, hg_r0, hg_sort_5, hg_heir_8, hg_next_11, hg_nameFrom_14, hg_nameTo_17, hg_pool_20, (hh_29.2.2.1.sub (L1 := [(r0, 16, 17, .ref sort_5), (r0, 16, 18, .ref heir_8), (r0, 16, 19, .ref next_11), (r0, 16, 20, .ref nameFrom_14), (r0, 16, 21, .ref nameTo_17), (r0, 16, 27, .ref pool_20)]) [5, 4, 3, 2, 1, 0] rfl), (hh_29.2.2.2.2.2.2.2.1.sub (L1 := [(sort_5, 117, 3100, ca 1, f_ms_21), (heir_8, 118, 3100, ca 1, f_mh_22), (next_11, 119, 3100, ca 1, f_mx_23), (nameFrom_14, 120, 3100, ca 1, f_mf_24), (nameTo_17, 121, 3100, ca 1, f_mt_25), (pool_20, 127, 3300, ca 1, f_mp_26)]) [5, 4, 3, 2, 1, 0] rfl), by first | omega | (refine ⟨?_, ?_⟩ <;> (first | omega | rfl | assumption | decide | exact Or.inl rfl | exact Or.inr rfl | (simp only; omega)))⟩⟩ rfl rfl hl.1 rfl (lv_room (Nat.le_of_ble_eq_true rfl)) dX14_askStatement_25 ⟨Nat.zero_le _, Nat.zero_le _⟩) hh_29.1 (fun q _ h => h) (fun q h => h) (fun r_37 u_36 t_36 H_36 locs_36 ht_36 hvm_36 hr_37 hb_36 hz_36 hk_36 hS_36 => ?_)
    rw [ht_36] at hb_36
    obtain ⟨hb_361, hb_362, hb_363, hb_364, hb_365⟩ := hb_36
    have hh_36 : jSt (dC, dI) B base G0 G0 EX14_askStatement s.heap 0 0 [(r0, 16, 27, .ref pool_20), (r0, 16, 21, .ref nameTo_17), (r0, 16, 20, .ref nameFrom_14), (r0, 16, 19, .ref next_11), (r0, 16, 18, .ref heir_8), (r0, 16, 17, .ref sort_5), (r0, 16, 41, .ref dd), (r0, 16, 42, .int dc), (r0, 16, 60, .ref co), (r0, 16, 61, .ref cs), (r0, 16, 46, .ref ol), (r0, 16, 47, .ref nw), (r0, 16, 71, .ref td)] [(pool_20, 127, 3300, ca 1, f_mp_26), (nameTo_17, 121, 3100, ca 1, f_mt_25), (nameFrom_14, 120, 3100, ca 1, f_mf_24), (next_11, 119, 3100, ca 1, f_mx_23), (heir_8, 118, 3100, ca 1, f_mh_22), (sort_5, 117, 3100, ca 1, f_ms_21), (cs, 207, 2, ca 1, fs)] [(jFs, jDY dC dI ca G0 none sn), (jF9, jVl dC dI G0 9 ck), ([(201, 0)], jQc dC dI (ca 4) dd 3 fd), ([(208, 0)], jQc dC dI (ca 4) co 2 fo)] H_36 locs_36 := ((hh_29.call hb_361 hb_362 hb_363 hb_364 hS_36 rfl (L1 := [(r0, 16, 27, .ref pool_20), (r0, 16, 21, .ref nameTo_17), (r0, 16, 20, .ref nameFrom_14), (r0, 16, 19, .ref next_11), (r0, 16, 18, .ref heir_8), (r0, 16, 17, .ref sort_5), (r0, 16, 41, .ref dd), (r0, 16, 42, .int dc), (r0, 16, 60, .ref co), (r0, 16, 61, .ref cs), (r0, 16, 46, .ref ol), (r0, 16, 47, .ref nw), (r0, 16, 71, .ref td)]) [0, 1, 2, 3, 4, 5, 6, 7, 8, 9, 10, 11, 12] rfl rfl (M1 := [(pool_20, 127, 3300, ca 1, f_mp_26), (nameTo_17, 121, 3100, ca 1, f_mt_25), (nameFrom_14, 120, 3100, ca 1, f_mf_24), (next_11, 119, 3100, ca 1, f_mx_23), (heir_8, 118, 3100, ca 1, f_mh_22), (sort_5, 117, 3100, ca 1, f_ms_21), (cs, 207, 2, ca 1, fs)]) [0, 1, 2, 3, 4, 5, 6] rfl rfl (I1 := [(jFs, jDY dC dI ca G0 none sn), (jF9, jVl dC dI G0 9 ck), ([(201, 0)], jQc dC dI (ca 4) dd 3 fd), ([(208, 0)], jQc dC dI (ca 4) co 2 fo)]) [0, 1, 2, 3] rfl rfl).more hb_365)
    clear hh_29 ht_36 hvm_36 hz_36 hk_36 hS_36 hb_361 hb_362 hb_363 hb_364 hb_365
    obtain ⟨hr_37_0, hr_37_1, hr_37_2⟩ := hr_37
    refine lv_istore_n (lv' := [(3, .int r_37), (2, .ref ret_31), (0, .ref r0), (1, .int a1)]) hx hb dX14_askStatement_28 rfl hl (by decide) rfl (fun ls hl => ?_)
    refine lv_aload_n hx hb dX14_askStatement_29 rfl (lv_at hl 1 rfl) ?_
    refine lv_ifnull hx hb dX14_askStatement_30 ?_
    refine lv_aload_n hx hb dX14_askStatement_33 rfl (lv_at hl 2 rfl) ?_
    refine lv_iload_n hx hb dX14_askStatement_34 rfl (lv_at hl 0 rfl) ?_
    refine va_calli (A0 := jA base) (H0 := s.heap) (va_runV (As := [.int r_37]) (rest := []) ⟨hx, hb, hml, hown, hts⟩ (uX14_isStringK l dC dI ca base B hB hAp hB16 hB117 G0 H_36 r0 r_37 sort_5 f_ms_21) (cwV 1 hts (jgV (jWr_56 _ (List.mem_of_getElem? (i := 3) rfl)) (jWr_56 _ (List.mem_of_getElem? (i := 4) rfl)) (jWr_56 _ (List.mem_of_getElem? (i := 5) rfl)) (jWr_1 _ (List.mem_of_getElem? (i := 5) rfl)) (jWr_56 _ (List.mem_of_getElem? (i := 6) rfl))) rfl rfl rfl (by decide +kernel) ⟨by rw [← hR]; exact Nat.le_of_ble_eq_true rfl, by rw [← hR]; exact Nat.le_of_ble_eq_true rfl⟩) ⟨fun a U g mk q => by obtain ⟨q0, q1, q2, qK, q10, q11, q12, q13, q14⟩ := q; exact ⟨q0, q1, q2, jG.calling g mk a qK, q10, q11, q12, q13, q14⟩, hh_36.recv (C := RX14) (T := TX14) (N := 74) hB16 rfl (by decide) hg_r0 hK, fun U hU hW => ⟨rfl, hU, hh_36.2.1, hG.step hW hU hh_36.1, hg_r0, hg_sort_5, (hh_36.2.2.1.sub (L1 := [(r0, 16, 17, .ref sort_5)]) [5] rfl), (hh_36.2.2.2.2.2.2.2.1.sub (L1 := [(sort_5, 117, 3100, ca 1, f_ms_21)]) [5] rfl), by first | omega | rfl | assumption | decide | exact Or.inl rfl | exact Or.inr rfl | (simp only; omega)⟩⟩ rfl rfl hl.1 rfl (lv_room (Nat.le_of_ble_eq_true rfl)) dX14_askStatement_35 ⟨Nat.zero_le _, Nat.zero_le _⟩) hh_36.1 (fun q _ h => h) (fun q h => h) (fun r_39 u_38 t_38 H_38 locs_38 ht_38 hvm_38 hr_39 hb_38 hz_38 hk_38 hS_38 => ?_)
    rw [ht_38] at hb_38
    obtain ⟨hb_381, hb_382, hb_383, hb_384, hb_385⟩ := hb_38
    have hh_38 : jSt (dC, dI) B base G0 G0 EX14_askStatement s.heap 0 0 [(r0, 16, 27, .ref pool_20), (r0, 16, 21, .ref nameTo_17), (r0, 16, 20, .ref nameFrom_14), (r0, 16, 19, .ref next_11), (r0, 16, 18, .ref heir_8), (r0, 16, 17, .ref sort_5), (r0, 16, 41, .ref dd), (r0, 16, 42, .int dc), (r0, 16, 60, .ref co), (r0, 16, 61, .ref cs), (r0, 16, 46, .ref ol), (r0, 16, 47, .ref nw), (r0, 16, 71, .ref td)] [(pool_20, 127, 3300, ca 1, f_mp_26), (nameTo_17, 121, 3100, ca 1, f_mt_25), (nameFrom_14, 120, 3100, ca 1, f_mf_24), (next_11, 119, 3100, ca 1, f_mx_23), (heir_8, 118, 3100, ca 1, f_mh_22), (sort_5, 117, 3100, ca 1, f_ms_21), (cs, 207, 2, ca 1, fs)] [(jFs, jDY dC dI ca G0 none sn), (jF9, jVl dC dI G0 9 ck), ([(201, 0)], jQc dC dI (ca 4) dd 3 fd), ([(208, 0)], jQc dC dI (ca 4) co 2 fo)] H_38 locs_38 := ((hh_36.call hb_381 hb_382 hb_383 hb_384 hS_38 rfl (L1 := [(r0, 16, 27, .ref pool_20), (r0, 16, 21, .ref nameTo_17), (r0, 16, 20, .ref nameFrom_14), (r0, 16, 19, .ref next_11), (r0, 16, 18, .ref heir_8), (r0, 16, 17, .ref sort_5), (r0, 16, 41, .ref dd), (r0, 16, 42, .int dc), (r0, 16, 60, .ref co), (r0, 16, 61, .ref cs), (r0, 16, 46, .ref ol), (r0, 16, 47, .ref nw), (r0, 16, 71, .ref td)]) [0, 1, 2, 3, 4, 5, 6, 7, 8, 9, 10, 11, 12] rfl rfl (M1 := [(pool_20, 127, 3300, ca 1, f_mp_26), (nameTo_17, 121, 3100, ca 1, f_mt_25), (nameFrom_14, 120, 3100, ca 1, f_mf_24), (next_11, 119, 3100, ca 1, f_mx_23), (heir_8, 118, 3100, ca 1, f_mh_22), (sort_5, 117, 3100, ca 1, f_ms_21), (cs, 207, 2, ca 1, fs)]) [0, 1, 2, 3, 4, 5, 6] rfl rfl (I1 := [(jFs, jDY dC dI ca G0 none sn), (jF9, jVl dC dI G0 9 ck), ([(201, 0)], jQc dC dI (ca 4) dd 3 fd), ([(208, 0)], jQc dC dI (ca 4) co 2 fo)]) [0, 1, 2, 3] rfl rfl).more hb_385)
    clear hh_36 ht_38 hvm_38 hz_38 hk_38 hS_38 hb_381 hb_382 hb_383 hb_384 hb_385
    obtain ⟨hr_39b, hr_39p⟩ := hr_39
    obtain ⟨hr_39p_0, hr_39p_1, hr_39p_2⟩ := hr_39p
    have hr_39' := jb_01 hr_39b
    refine lv_if_ne (tgt := 51) hx hb dX14_askStatement_38 (by decide) (fun c_40 => ?_) (fun c_40 => ?_)
    · skip
      have c_40' : r_39.toInt ≠ 0 := jb_ne (rfl) ((by decide)) c_40
      have hh_41 := hh_38.sub (L1 := [(r0, 16, 27, .ref pool_20), (r0, 16, 21, .ref nameTo_17), (r0, 16, 20, .ref nameFrom_14), (r0, 16, 19, .ref next_11), (r0, 16, 18, .ref heir_8), (r0, 16, 17, .ref sort_5), (r0, 16, 41, .ref dd), (r0, 16, 42, .int dc), (r0, 16, 60, .ref co), (r0, 16, 61, .ref cs), (r0, 16, 46, .ref ol), (r0, 16, 47, .ref nw), (r0, 16, 71, .ref td)]) [0, 1, 2, 3, 4, 5, 6, 7, 8, 9, 10, 11, 12] rfl (M1 := [(cs, 207, 2, ca 1, fs)]) [6] rfl (I1 := [(jFs, jDY dC dI ca G0 none sn), (jF9, jVl dC dI G0 9 ck), ([(201, 0)], jQc dC dI (ca 4) dd 3 fd), ([(208, 0)], jQc dC dI (ca 4) co 2 fo)]) [0, 1, 2, 3] rfl
      clear hh_38
      obtain ⟨yb_42, ye_42, fb_42, fe_42, hg_yb_42, hg_ye_42, hP_42, hM_42, hs_42, h0_42, h4_42⟩ := jDY.at (hh_41.iv 0 rfl) hg_ret_31 (fun q => by cases q)
      have hh_43 := (hh_41.more hP_42).moreM hM_42
      clear hh_41 hP_42 hM_42
      have hh_44 := hh_43.more (jVl.at (hh_43.iv 1 rfl) hg_ret_31)
      clear hh_43
      obtain ⟨sx_45, esx_45, hsx_45⟩ := hh_44.sat (C := RX12) (T := TX12) (N := 11) hB14 rfl (by decide) hg_ret_31 (i := 9) (by decide) rfl 0 rfl
      cases esx_45
      have hst := (hr_39p_2 (by omega)).1
      obtain ⟨v_46, hv_46, hh_47⟩ := hh_44.pin (C := RX14) (T := TX14) (N := 74) hB16 rfl (by decide) hg_r0 (i := 22) (by decide) rfl
      obtain ⟨from_48, rfl, hg_from_48⟩ := hv_46
      obtain ⟨f_from_49, hh_49⟩ := hh_47.cpin hB122 (by decide) (by decide) hg_from_48
      clear hh_47
      obtain ⟨v_50, hv_50, hh_51⟩ := hh_49.pin (C := RX14) (T := TX14) (N := 74) hB16 rfl (by decide) hg_r0 (i := 23) (by decide) rfl
      obtain ⟨to_52, rfl, hg_to_52⟩ := hv_50
      obtain ⟨f_to_53, hh_53⟩ := hh_51.cpin hB123 (by decide) (by decide) hg_to_52
      clear hh_51
      refine lv_aload_n hx hb dX14_askStatement_51 rfl (lv_at hl 1 rfl) ?_
      refine j7_readN hx hb hown hK (C := RX12) (T := TX12) (N := 11) rfl hly_14_9 hlk_531 (hh_53.at 2 rfl) dX14_askStatement_52 ?_
      refine lv_aload_n hx hb dX14_askStatement_55 rfl (lv_at hl 1 rfl) ?_
      refine j7_readN hx hb hown hK (C := RX12) (T := TX12) (N := 11) rfl hly_14_5 hlk_587 (hh_53.at 5 rfl) dX14_askStatement_56 ?_
      refine lv_icmp_ne (tgt := 109) hx hb dX14_askStatement_59 (by decide) (fun c_54 => ?_) (fun c_54 => ?_)
      · skip
        have c_54' : (ck ret_31).toInt ≠ (sn ret_31).toInt := jb_ne (rfl) (rfl) c_54
        refine lv_aload_n hx hb dX14_askStatement_109 rfl (lv_at hl 2 rfl) ?_
        refine lv_aload_n hx hb dX14_askStatement_110 rfl (lv_at hl 1 rfl) ?_
        refine lv_iconst (v := 0) hx hb dX14_askStatement_111 (by decide) ?_
        refine lv_aload_n hx hb dX14_askStatement_112 rfl (lv_at hl 1 rfl) ?_
        refine j7_readN hx hb hown hK (C := RX12) (T := TX12) (N := 11) rfl hly_14_5 hlk_587 (hh_53.at 5 rfl) dX14_askStatement_113 ?_
        refine va_calli (A0 := jA base) (H0 := s.heap) (va_runV (As := [.ref ret_31, .int 0, .int (sn ret_31)]) (rest := []) ⟨hx, hb, hml, hown, hts⟩ (uX14_waitForK l dC dI ca base B hB hAp hB14 hB16 hB101 hB103 hB202 hB203 hB206 G0 H_38 r0 ret_31 0 (sn ret_31)) (cwV 3 hts (jgV (jWr_75 _ (List.mem_of_getElem? (i := 10) rfl)) (jWr_75 _ (List.mem_of_getElem? (i := 11) rfl)) (jWr_75 _ (List.mem_of_getElem? (i := 12) rfl)) (jWr_1 _ (List.mem_of_getElem? (i := 5) rfl)) (jWr_75 _ (List.mem_of_getElem? (i := 13) rfl))) rfl rfl rfl (by decide +kernel) ⟨by rw [← hR]; exact Nat.le_of_ble_eq_true rfl, by rw [← hR]; exact Nat.le_of_ble_eq_true rfl⟩) ⟨fun a U g mk q => by obtain ⟨q0, q1, q2, qK, q10, q11, q12, q13, q14, q15⟩ := q; exact ⟨q0, q1, q2, jG.calling g mk a qK, (va_K.moved (Vm.Alike.refl U.vm) q10), q11, q12, q13, q14, q15⟩, hh_53.recv (C := RX14) (T := TX14) (N := 74) hB16 rfl (by decide) hg_r0 hK, fun U hU hW => ⟨rfl, hU, hh_53.2.1, hG.step hW hU hh_53.1, va_K.moved hW.alike hK2, hg_ret_31, hg_r0, (Or.inl rfl), jP.nil, by first | omega | (refine ⟨?_, ?_⟩ <;> (first | omega | rfl | assumption | decide | exact Or.inl rfl | exact Or.inr rfl | (simp only; omega)))⟩⟩ rfl rfl hl.1 rfl (lv_room (Nat.le_of_ble_eq_true rfl)) dX14_askStatement_116 ⟨Nat.zero_le _, Nat.zero_le _⟩) hh_53.1 (fun q _ h => h) (fun q h => h) (fun r_56 u_55 t_55 H_55 locs_55 ht_55 hvm_55 hr_56 hb_55 hz_55 hk_55 hS_55 => ?_)
        obtain ⟨qw_55, rfl⟩ : ∃ z, z = u_55 := ⟨_, rfl⟩
        rw [ht_55] at hb_55
        obtain ⟨hb_551, hb_552, hb_553, hb_554, hb_555⟩ := hb_55
        have hh_55 : jSt (dC, dI) B base G0 G0 EX14_askStatement s.heap 0 0 [(r0, 16, 48, .int qw_55), (r0, 16, 23, .ref to_52), (r0, 16, 22, .ref from_48), (ret_31, 14, 9, .int (ck ret_31)), (ret_31, 14, 6, .ref yb_42), (ret_31, 14, 7, .ref ye_42), (ret_31, 14, 5, .int (sn ret_31)), (r0, 16, 27, .ref pool_20), (r0, 16, 21, .ref nameTo_17), (r0, 16, 20, .ref nameFrom_14), (r0, 16, 19, .ref next_11), (r0, 16, 18, .ref heir_8), (r0, 16, 17, .ref sort_5), (r0, 16, 41, .ref dd), (r0, 16, 42, .int dc), (r0, 16, 60, .ref co), (r0, 16, 61, .ref cs), (r0, 16, 46, .ref ol), (r0, 16, 47, .ref nw), (r0, 16, 71, .ref td)] [(to_52, 123, 3100, ca 1, f_to_53), (from_48, 122, 3100, ca 1, f_from_49), (yb_42, 190, 40, ca 1, fb_42), (ye_42, 191, 40, ca 1, fe_42), (cs, 207, 2, ca 1, fs)] [(jFs, jDY dC dI ca G0 none sn), (jF9, jVl dC dI G0 9 ck), ([(201, 0)], jQc dC dI (ca 4) dd 3 fd), ([(208, 0)], jQc dC dI (ca 4) co 2 fo)] H_55 locs_55 := ((hh_53.call hb_551 hb_552 hb_553 hb_554 hS_55 rfl (L1 := [(r0, 16, 23, .ref to_52), (r0, 16, 22, .ref from_48), (ret_31, 14, 9, .int (ck ret_31)), (ret_31, 14, 6, .ref yb_42), (ret_31, 14, 7, .ref ye_42), (ret_31, 14, 5, .int (sn ret_31)), (r0, 16, 27, .ref pool_20), (r0, 16, 21, .ref nameTo_17), (r0, 16, 20, .ref nameFrom_14), (r0, 16, 19, .ref next_11), (r0, 16, 18, .ref heir_8), (r0, 16, 17, .ref sort_5), (r0, 16, 41, .ref dd), (r0, 16, 42, .int dc), (r0, 16, 60, .ref co), (r0, 16, 61, .ref cs), (r0, 16, 46, .ref ol), (r0, 16, 47, .ref nw), (r0, 16, 71, .ref td)]) [0, 1, 2, 3, 4, 5, 6, 7, 8, 9, 10, 11, 12, 13, 14, 15, 16, 17, 18] rfl rfl (M1 := [(to_52, 123, 3100, ca 1, f_to_53), (from_48, 122, 3100, ca 1, f_from_49), (yb_42, 190, 40, ca 1, fb_42), (ye_42, 191, 40, ca 1, fe_42), (cs, 207, 2, ca 1, fs)]) [0, 1, 2, 3, 4] rfl rfl (I1 := [(jFs, jDY dC dI ca G0 none sn), (jF9, jVl dC dI G0 9 ck), ([(201, 0)], jQc dC dI (ca 4) dd 3 fd), ([(208, 0)], jQc dC dI (ca 4) co 2 fo)]) [0, 1, 2, 3] rfl rfl).more hb_555)
        clear hh_53 ht_55 hvm_55 hz_55 hk_55 hS_55 hb_551 hb_552 hb_553 hb_554 hb_555
        obtain ⟨hr_56b, hr_56p⟩ := hr_56
        have hr_56' := jb_01 hr_56b
        refine lv_if_eq (tgt := 199) hx hb dX14_askStatement_119 (by decide) (fun c_57 => ?_) (fun c_57 => ?_)
        · skip
          have c_57' : r_56.toInt = 0 := jb_eq (rfl) ((by decide)) c_57
          first | (have hr_56pq := hr_56p.resolve_left (by omega); clear hr_56p) | (have hr_56pq := hr_56p.resolve_right (by omega); clear hr_56p) | skip
          rw [hQ]
          exact W.vret hx hb hr (fun t ht hW => ⟨⟨(), rfl, trivial, hh_55.rt (M1 := []) [] rfl ht⟩, by rw [ht]; try exact hh_55.1.1, fun q h9 hq => by rw [ht]; try exact hh_55.1.2.1 q h9 hq⟩) hh_55.1.2.2 dX14_askStatement_199
        · skip
          have c_57' : r_56.toInt ≠ 0 := jb_eq_n (rfl) ((by decide)) c_57
          first | (have hr_56pq := hr_56p.resolve_left (by omega); clear hr_56p) | (have hr_56pq := hr_56p.resolve_right (by omega); clear hr_56p) | skip
          refine lv_aload_n hx hb dX14_askStatement_122 rfl (lv_at hl 2 rfl) ?_
          refine j7_read hx hb hown hK (C := RX14) (T := TX14) (N := 74) rfl hly_16_48 hlk_711 (hh_55.at 0 rfl) dX14_askStatement_123 ?_
          refine lv_iconst (v := 1) hx hb dX14_askStatement_126 (by decide) ?_
          refine lv_isub hx hb dX14_askStatement_127 ?_
          refine lv_topi (fun z_58 ez_58 => ?_)
          have hz_58 : z_58.toInt = qw_55.toInt - 1 := by rw [ez_58]; exact jb_isub2 (rfl) ((by decide)) (by omega)
          refine lv_istore (lv' := [(4, .int z_58), (3, .int r_37), (2, .ref ret_31), (0, .ref r0), (1, .int a1)]) hx hb dX14_askStatement_128 hl (by decide) rfl (fun ls hl => ?_)
          obtain ⟨v_59, hv_59, hh_60⟩ := hh_55.pin (C := RX14) (T := TX14) (N := 74) hB16 rfl (by decide) hg_r0 (i := 57) (by decide) rfl
          obtain ⟨waitNameLength_61, rfl, hg_waitNameLength_61⟩ := hv_59
          obtain ⟨f_waitNameLength_62, hh_62⟩ := hh_60.cpin hB204 (by decide) (by decide) hg_waitNameLength_61
          clear hh_60
          refine lv_aload_n hx hb dX14_askStatement_130 rfl (lv_at hl 3 rfl) ?_
          refine j7_read hx hb hown hK (C := RX14) (T := TX14) (N := 74) rfl hly_16_57 hlk_116 (hh_62.at 0 rfl) dX14_askStatement_131 ?_
          refine lv_iload hx hb dX14_askStatement_134 (lv_at hl 0 rfl) ?_
          refine lv_aload_n hx hb dX14_askStatement_136 rfl (lv_at hl 3 rfl) ?_
          refine j7_read hx hb hown hK (C := RX14) (T := TX14) (N := 74) rfl hly_16_23 hlk_55 (hh_62.at 2 rfl) dX14_askStatement_137 ?_
          refine lv_iload_n hx hb dX14_askStatement_140 rfl (lv_at hl 1 rfl) ?_
          refine j7_ialdM hx hb hK hh_62 hB123 1 rfl (by decide) hg_to_52 (x := r_37.toInt) (rfl) (by omega) (j := 1) rfl dX14_askStatement_141 (fun z_63 ez_63 (hz_63 : 0 ≤ z_63.toInt ∧ z_63.toInt ≤ 3100) => ?_)
          have hqz_63 : z_63.toInt = jSo f_to_53 (r_37.toInt) := by unfold jSo; rw [ez_63]
          refine lv_aload_n hx hb dX14_askStatement_142 rfl (lv_at hl 3 rfl) ?_
          refine j7_read hx hb hown hK (C := RX14) (T := TX14) (N := 74) rfl hly_16_22 hlk_52 (hh_62.at 3 rfl) dX14_askStatement_143 ?_
          refine lv_iload_n hx hb dX14_askStatement_146 rfl (lv_at hl 1 rfl) ?_
          refine j7_ialdM hx hb hK hh_62 hB122 1 rfl (by decide) hg_from_48 (x := r_37.toInt) (rfl) (by omega) (j := 2) rfl dX14_askStatement_147 (fun z_64 ez_64 (hz_64 : 0 ≤ z_64.toInt ∧ z_64.toInt ≤ 3100) => ?_)
          have hqz_64 : z_64.toInt = jSo f_from_49 (r_37.toInt) := by unfold jSo; rw [ez_64]
          refine lv_isub hx hb dX14_askStatement_148 ?_
          refine lv_topi (fun z_65 ez_65 => ?_)
          have hz_65 : z_65.toInt = z_63.toInt - z_64.toInt := by rw [ez_65]; exact jb_isub2 (rfl) (rfl) (by omega)
          refine j7_iastU hx hb hK hh_62 hB hB204 1 rfl (by decide) (by decide) rfl 0 rfl (M1 := [(to_52, 123, 3100, ca 1, f_to_53), (from_48, 122, 3100, ca 1, f_from_49), (yb_42, 190, 40, ca 1, fb_42), (ye_42, 191, 40, ca 1, fe_42), (cs, 207, 2, ca 1, fs)]) [1, 2, 3, 4, 5] rfl rfl rfl hg_waitNameLength_61 (x := z_58.toInt) (rfl) (by omega) (by first | omega | (refine ⟨?_, ?_⟩ <;> (first | omega | rfl | assumption | decide | exact Or.inl rfl | exact Or.inr rfl | (simp only; omega)))) dX14_askStatement_149 (fun H_66 locs_66 fs_67 hv_66 ho_66 hh_66 => ?_)
          have hv_66 : jSo fs_67 (z_58.toInt) = z_65.toInt := by unfold jSo; rw [hv_66]; try exact rfl
          rw [show z_58.toInt = (qw_55.toInt - 1) by omega] at hv_66 ho_66
          clear hh_62
          refine lv_iconst (v := 0) hx hb dX14_askStatement_150 (by decide) ?_
          refine lv_istore (lv' := [(5, .int 0), (4, .int z_58), (3, .int r_37), (2, .ref ret_31), (0, .ref r0), (1, .int a1)]) hx hb dX14_askStatement_151 hl (by decide) rfl (fun ls hl => ?_)
          have L153 : ∀ (N : Nat) (v5_68 : Int32) (H_68 : Heap) (locs_68 : List Loc), jSt (dC, dI) B base G0 G0 EX14_askStatement s.heap 0 0 [(r0, 16, 57, .ref waitNameLength_61), (r0, 16, 23, .ref to_52), (r0, 16, 22, .ref from_48), (ret_31, 14, 9, .int (ck ret_31)), (ret_31, 14, 6, .ref yb_42), (ret_31, 14, 7, .ref ye_42), (ret_31, 14, 5, .int (sn ret_31)), (r0, 16, 41, .ref dd), (r0, 16, 42, .int dc), (r0, 16, 60, .ref co), (r0, 16, 61, .ref cs), (r0, 16, 46, .ref ol), (r0, 16, 47, .ref nw), (r0, 16, 71, .ref td)] [(waitNameLength_61, 204, 12, ca 1, fs_67), (to_52, 123, 3100, ca 1, f_to_53), (from_48, 122, 3100, ca 1, f_from_49), (yb_42, 190, 40, ca 1, fb_42), (ye_42, 191, 40, ca 1, fe_42), (cs, 207, 2, ca 1, fs)] [(jFs, jDY dC dI ca G0 none sn), (jF9, jVl dC dI G0 9 ck), ([(201, 0)], jQc dC dI (ca 4) dd 3 fd), ([(208, 0)], jQc dC dI (ca 4) co 2 fo)] H_68 locs_68 → (0 ≤ v5_68.toInt ∧ v5_68.toInt ≤ 3100) → (3100 - v5_68.toInt : Int) < N → ∀ ls : Array Slot, lv_has ls 6 [(0, .ref r0), (1, .int a1), (2, .ref ret_31), (3, .int r_37), (4, .int z_58), (5, .int v5_68)] → W p l e R s m ([.ref r0, .int a1] : List Value).toArray below meth c H_68 locs_68 0 0 Q (F0 m 153 ls []) := by
            intro N
            induction N with
            | zero => intro v5_68 H_68 locs_68 hh_68  hi_68 hm; exact absurd hm (by omega)
            | succ N L153 =>
              intro v5_68 H_68 locs_68 hh_68  hi_68 hm_68 ls hl
              obtain ⟨hi_68_0, hi_68_1⟩ := hi_68
              try clear hr_56p
              refine lv_iload hx hb dX14_askStatement_153 (lv_at hl 5 rfl) ?_
              refine lv_aload_n hx hb dX14_askStatement_155 rfl (lv_at hl 0 rfl) ?_
              refine j7_read hx hb hown hK (C := RX14) (T := TX14) (N := 74) rfl hly_16_57 hlk_116 (hh_68.at 0 rfl) dX14_askStatement_156 ?_
              refine lv_iload hx hb dX14_askStatement_159 (lv_at hl 4 rfl) ?_
              refine j7_ialdM hx hb hK hh_68 hB204 1 rfl (by decide) hg_waitNameLength_61 (x := z_58.toInt) (rfl) (by omega) (j := 0) rfl dX14_askStatement_161 (fun z_69 ez_69 (hz_69 : -3100 ≤ z_69.toInt ∧ z_69.toInt ≤ 3100) => ?_)
              have hqz_69 : z_69.toInt = jSo fs_67 ((qw_55.toInt - 1)) := by unfold jSo; rw [ez_69, show z_58.toInt = (qw_55.toInt - 1) by omega]
              refine lv_icmp_ge (tgt := 199) hx hb dX14_askStatement_162 (by decide) (fun c_70 => ?_) (fun c_70 => ?_)
              · skip
                have c_70' : v5_68.toInt ≥ z_69.toInt := jb_ge (rfl) (rfl) c_70
                rw [hQ]
                exact W.vret hx hb hr (fun t ht hW => ⟨⟨(), rfl, trivial, hh_68.rt (M1 := []) [] rfl ht⟩, by rw [ht]; try exact hh_68.1.1, fun q h9 hq => by rw [ht]; try exact hh_68.1.2.1 q h9 hq⟩) hh_68.1.2.2 dX14_askStatement_199
              · skip
                have c_70' : v5_68.toInt < z_69.toInt := jb_ge_n (rfl) (rfl) c_70
                refine lv_aload_n hx hb dX14_askStatement_165 rfl (lv_at hl 0 rfl) ?_
                obtain ⟨v_71, hv_71, hh_72⟩ := hh_68.pin (C := RX14) (T := TX14) (N := 74) hB16 rfl (by decide) hg_r0 (i := 56) (by decide) rfl
                clear hh_68
                obtain ⟨waitName_73, rfl, hg_waitName_73⟩ := hv_71
                refine j7_read hx hb hown hK (C := RX14) (T := TX14) (N := 74) rfl hly_16_56 hlk_113 (hh_72.at 0 rfl) dX14_askStatement_166 ?_
                refine lv_sipush (v := 3100) hx hb dX14_askStatement_169 (by decide) ?_
                refine lv_iload hx hb dX14_askStatement_172 (lv_at hl 4 rfl) ?_
                refine lv_imul hx hb dX14_askStatement_174 ?_
                refine lv_topi (fun z_74 ez_74 => ?_)
                have hz_74 : z_74.toInt = 3100 * z_58.toInt := by rw [ez_74]; exact jb_imul2 ((by decide)) (rfl) (by omega)
                refine lv_iload hx hb dX14_askStatement_175 (lv_at hl 5 rfl) ?_
                refine lv_iadd hx hb dX14_askStatement_177 ?_
                refine lv_topi (fun z_75 ez_75 => ?_)
                have hz_75 : z_75.toInt = z_74.toInt + v5_68.toInt := by rw [ez_75]; exact jb_iadd2 (rfl) (rfl) (by omega)
                refine lv_aload_n hx hb dX14_askStatement_178 rfl (lv_at hl 0 rfl) ?_
                obtain ⟨v_76, hv_76, hh_77⟩ := hh_72.pin (C := RX14) (T := TX14) (N := 74) hB16 rfl (by decide) hg_r0 (i := 27) (by decide) rfl
                clear hh_72
                obtain ⟨pool_78, rfl, hg_pool_78⟩ := hv_76
                refine j7_read hx hb hown hK (C := RX14) (T := TX14) (N := 74) rfl hly_16_27 hlk_65 (hh_77.at 0 rfl) dX14_askStatement_179 ?_
                refine lv_aload_n hx hb dX14_askStatement_182 rfl (lv_at hl 0 rfl) ?_
                refine j7_read hx hb hown hK (C := RX14) (T := TX14) (N := 74) rfl hly_16_22 hlk_52 (hh_77.at 4 rfl) dX14_askStatement_183 ?_
                refine lv_iload_n hx hb dX14_askStatement_186 rfl (lv_at hl 3 rfl) ?_
                refine j7_ialdM hx hb hK hh_77 hB122 1 rfl (by decide) hg_from_48 (x := r_37.toInt) (rfl) (by omega) (j := 2) rfl dX14_askStatement_187 (fun z_79 ez_79 (hz_79 : 0 ≤ z_79.toInt ∧ z_79.toInt ≤ 3100) => ?_)
                have hqz_79 : z_79.toInt = jSo f_from_49 (r_37.toInt) := by unfold jSo; rw [ez_79]
                refine lv_iload hx hb dX14_askStatement_188 (lv_at hl 5 rfl) ?_
                refine lv_iadd hx hb dX14_askStatement_190 ?_
                refine lv_topi (fun z_80 ez_80 => ?_)
                have hz_80 : z_80.toInt = z_79.toInt + v5_68.toInt := by rw [ez_80]; exact jb_iadd2 (rfl) (rfl) (by omega)
                refine j7_iald hx hb hK hh_77 hB127 1 rfl (by decide) hg_pool_78 (x := z_80.toInt) (rfl) (by omega) dX14_askStatement_191 (fun z_81 (hz_81 : True) => ?_)
                refine j7_iast hx hb hK hh_77 hB hB101 1 rfl (by decide) (by decide) rfl rfl rfl hg_waitName_73 (x := z_75.toInt) (rfl) (by omega) (trivial) dX14_askStatement_192 (fun H_82 locs_82 hh_82 => ?_)
                clear hh_77
                obtain ⟨z_83, ez_83⟩ : ∃ y : Int32, y = v5_68 + 1 := ⟨_, rfl⟩
                refine lv_iinc (v := z_83) (lv' := [(5, .int z_83), (0, .ref r0), (1, .int a1), (2, .ref ret_31), (3, .int r_37), (4, .int z_58)]) hx hb dX14_askStatement_193 hl (k := 5) rfl (by rw [ez_83]; rfl) (by decide) rfl (fun ls hl => ?_)
                have hz_83 : z_83.toInt = v5_68.toInt + 1 := by rw [ez_83]; exact jb_iadd2 (rfl) (by decide) (by omega)
                refine lv_goto (tgt := 153) hx hb dX14_askStatement_196 (by decide) ?_
                exact L153 z_83 _ _ (hh_82.sub (L1 := [(r0, 16, 57, .ref waitNameLength_61), (r0, 16, 23, .ref to_52), (r0, 16, 22, .ref from_48), (ret_31, 14, 9, .int (ck ret_31)), (ret_31, 14, 6, .ref yb_42), (ret_31, 14, 7, .ref ye_42), (ret_31, 14, 5, .int (sn ret_31)), (r0, 16, 41, .ref dd), (r0, 16, 42, .int dc), (r0, 16, 60, .ref co), (r0, 16, 61, .ref cs), (r0, 16, 46, .ref ol), (r0, 16, 47, .ref nw), (r0, 16, 71, .ref td)]) [2, 3, 4, 5, 6, 7, 8, 9, 10, 11, 12, 13, 14, 15] rfl (M1 := [(waitNameLength_61, 204, 12, ca 1, fs_67), (to_52, 123, 3100, ca 1, f_to_53), (from_48, 122, 3100, ca 1, f_from_49), (yb_42, 190, 40, ca 1, fb_42), (ye_42, 191, 40, ca 1, fe_42), (cs, 207, 2, ca 1, fs)]) [0, 1, 2, 3, 4, 5] rfl (I1 := [(jFs, jDY dC dI ca G0 none sn), (jF9, jVl dC dI G0 9 ck), ([(201, 0)], jQc dC dI (ca 4) dd 3 fd), ([(208, 0)], jQc dC dI (ca 4) co 2 fo)]) [0, 1, 2, 3] rfl) (by first | omega | (refine ⟨?_, ?_⟩ <;> (first | omega | rfl | assumption | decide | exact Or.inl rfl | exact Or.inr rfl | (simp only; omega)))) (by omega) _ (lv_sub hl [1, 2, 3, 4, 5, 0] rfl)
          exact L153 (3100 - (0 : Int32).toInt : Int).toNat.succ 0 _ _ (hh_66.sub (L1 := [(r0, 16, 57, .ref waitNameLength_61), (r0, 16, 23, .ref to_52), (r0, 16, 22, .ref from_48), (ret_31, 14, 9, .int (ck ret_31)), (ret_31, 14, 6, .ref yb_42), (ret_31, 14, 7, .ref ye_42), (ret_31, 14, 5, .int (sn ret_31)), (r0, 16, 41, .ref dd), (r0, 16, 42, .int dc), (r0, 16, 60, .ref co), (r0, 16, 61, .ref cs), (r0, 16, 46, .ref ol), (r0, 16, 47, .ref nw), (r0, 16, 71, .ref td)]) [0, 2, 3, 4, 5, 6, 7, 14, 15, 16, 17, 18, 19, 20] rfl (M1 := [(waitNameLength_61, 204, 12, ca 1, fs_67), (to_52, 123, 3100, ca 1, f_to_53), (from_48, 122, 3100, ca 1, f_from_49), (yb_42, 190, 40, ca 1, fb_42), (ye_42, 191, 40, ca 1, fe_42), (cs, 207, 2, ca 1, fs)]) [0, 1, 2, 3, 4, 5] rfl (I1 := [(jFs, jDY dC dI ca G0 none sn), (jF9, jVl dC dI G0 9 ck), ([(201, 0)], jQc dC dI (ca 4) dd 3 fd), ([(208, 0)], jQc dC dI (ca 4) co 2 fo)]) [0, 1, 2, 3] rfl) (by first | omega | (refine ⟨?_, ?_⟩ <;> (first | omega | rfl | assumption | decide | exact Or.inl rfl | exact Or.inr rfl | (simp only; omega)))) (by omega) _ (lv_sub hl [4, 5, 3, 2, 1, 0] rfl)
      · skip
        have c_54' : (ck ret_31).toInt = (sn ret_31).toInt := jb_ne_n (rfl) (rfl) c_54
        refine lv_aload_n hx hb dX14_askStatement_62 rfl (lv_at hl 2 rfl) ?_
        refine va_callv (A0 := jA base) (H0 := s.heap) (va_runV (As := []) (rest := []) ⟨hx, hb, hml, hown, hts⟩ (uX14_beginResult l dC dI ca base B hB hAp hB16 hB101 G0 H_38 r0) (cwV 0 hts (jgV (jWr_69 _ (List.mem_of_getElem? (i := 19) rfl)) (jWr_69 _ (List.mem_of_getElem? (i := 20) rfl)) (jWr_69 _ (List.mem_of_getElem? (i := 21) rfl)) (jWr_1 _ (List.mem_of_getElem? (i := 5) rfl)) (jWr_69 _ (List.mem_of_getElem? (i := 22) rfl))) rfl rfl rfl (by decide +kernel) ⟨by rw [← hR]; exact Nat.le_of_ble_eq_true rfl, by rw [← hR]; exact Nat.le_of_ble_eq_true rfl⟩) ⟨fun a U g mk q => by obtain ⟨q0, q1, q2, qK, q10, q11, q12⟩ := q; exact ⟨q0, q1, q2, jG.calling g mk a qK, q10, q11, q12⟩, hh_53.recv (C := RX14) (T := TX14) (N := 74) hB16 rfl (by decide) hg_r0 hK, fun U hU hW => ⟨rfl, hU, hh_53.2.1, hG.step hW hU hh_53.1, hg_r0, jP.nil, trivial⟩⟩ rfl rfl hl.1 rfl (lv_room (Nat.le_of_ble_eq_true rfl)) dX14_askStatement_63 ⟨Nat.zero_le _, Nat.zero_le _⟩) hh_53.1 (fun q _ h => h) (fun q h => h) (fun u_84 t_84 H_84 locs_84 ht_84 hvm_84 hr_85 hb_84 hz_84 hk_84 hS_84 => ?_)
        rw [ht_84] at hb_84
        obtain ⟨hb_841, hb_842, hb_843, hb_844, hb_845⟩ := hb_84
        have hh_84 : jSt (dC, dI) B base G0 G0 EX14_askStatement s.heap 0 0 [(r0, 16, 23, .ref to_52), (r0, 16, 22, .ref from_48), (ret_31, 14, 9, .int (ck ret_31)), (ret_31, 14, 6, .ref yb_42), (ret_31, 14, 7, .ref ye_42), (ret_31, 14, 5, .int (sn ret_31)), (r0, 16, 27, .ref pool_20), (r0, 16, 21, .ref nameTo_17), (r0, 16, 20, .ref nameFrom_14), (r0, 16, 19, .ref next_11), (r0, 16, 18, .ref heir_8), (r0, 16, 17, .ref sort_5), (r0, 16, 41, .ref dd), (r0, 16, 42, .int dc), (r0, 16, 60, .ref co), (r0, 16, 61, .ref cs), (r0, 16, 46, .ref ol), (r0, 16, 47, .ref nw), (r0, 16, 71, .ref td)] [(to_52, 123, 3100, ca 1, f_to_53), (from_48, 122, 3100, ca 1, f_from_49), (yb_42, 190, 40, ca 1, fb_42), (ye_42, 191, 40, ca 1, fe_42), (cs, 207, 2, ca 1, fs)] [(jFs, jDY dC dI ca G0 none sn), (jF9, jVl dC dI G0 9 ck), ([(201, 0)], jQc dC dI (ca 4) dd 3 fd), ([(208, 0)], jQc dC dI (ca 4) co 2 fo)] H_84 locs_84 := ((hh_53.call hb_841 hb_842 hb_843 hb_844 hS_84 rfl (L1 := [(r0, 16, 23, .ref to_52), (r0, 16, 22, .ref from_48), (ret_31, 14, 9, .int (ck ret_31)), (ret_31, 14, 6, .ref yb_42), (ret_31, 14, 7, .ref ye_42), (ret_31, 14, 5, .int (sn ret_31)), (r0, 16, 27, .ref pool_20), (r0, 16, 21, .ref nameTo_17), (r0, 16, 20, .ref nameFrom_14), (r0, 16, 19, .ref next_11), (r0, 16, 18, .ref heir_8), (r0, 16, 17, .ref sort_5), (r0, 16, 41, .ref dd), (r0, 16, 42, .int dc), (r0, 16, 60, .ref co), (r0, 16, 61, .ref cs), (r0, 16, 46, .ref ol), (r0, 16, 47, .ref nw), (r0, 16, 71, .ref td)]) [0, 1, 2, 3, 4, 5, 6, 7, 8, 9, 10, 11, 12, 13, 14, 15, 16, 17, 18] rfl rfl (M1 := [(to_52, 123, 3100, ca 1, f_to_53), (from_48, 122, 3100, ca 1, f_from_49), (yb_42, 190, 40, ca 1, fb_42), (ye_42, 191, 40, ca 1, fe_42), (cs, 207, 2, ca 1, fs)]) [0, 1, 2, 3, 4] rfl rfl (I1 := [(jFs, jDY dC dI ca G0 none sn), (jF9, jVl dC dI G0 9 ck), ([(201, 0)], jQc dC dI (ca 4) dd 3 fd), ([(208, 0)], jQc dC dI (ca 4) co 2 fo)]) [0, 1, 2, 3] rfl rfl).more hb_845)
        clear hh_53 ht_84 hvm_84 hz_84 hk_84 hS_84 hb_841 hb_842 hb_843 hb_844 hb_845
        refine lv_aload_n hx hb dX14_askStatement_66 rfl (lv_at hl 2 rfl) ?_
        refine lv_aload_n hx hb dX14_askStatement_67 rfl (lv_at hl 1 rfl) ?_
        refine lv_aload_n hx hb dX14_askStatement_68 rfl (lv_at hl 1 rfl) ?_
        refine j7_readN hx hb hown hK (C := RX12) (T := TX12) (N := 11) rfl hly_14_5 hlk_587 (hh_84.at 5 rfl) dX14_askStatement_69 ?_
        obtain ⟨v_88, hv_88, hh_89⟩ := hh_84.pin (C := RX14) (T := TX14) (N := 74) hB16 rfl (by decide) hg_r0 (i := 58) (by decide) rfl
        obtain ⟨kernel_90, rfl, hg_kernel_90⟩ := hv_88
        obtain ⟨v_91, hv_91, hh_92⟩ := hh_89.pin (C := RX13) (T := TX13) (N := 50) hB15 rfl (by decide) hg_kernel_90 (i := 17) (by decide) rfl
        obtain ⟨fact_93, rfl, hg_fact_93⟩ := hv_91
        obtain ⟨v_94, hv_94, hh_95⟩ := hh_92.pin (C := RX13) (T := TX13) (N := 50) hB15 rfl (by decide) hg_kernel_90 (i := 22) (by decide) rfl
        obtain ⟨goal_96, rfl, hg_goal_96⟩ := hv_94
        obtain ⟨v_97, hv_97, hh_98⟩ := hh_95.pin (C := RX13) (T := TX13) (N := 50) hB15 rfl (by decide) hg_kernel_90 (i := 25) (by decide) rfl
        obtain ⟨hyps_99, rfl, hg_hyps_99⟩ := hv_97
        obtain ⟨v_100, hv_100, hh_101⟩ := hh_98.pin (C := RX13) (T := TX13) (N := 50) hB15 rfl (by decide) hg_kernel_90 (i := 27) (by decide) rfl
        obtain ⟨hyp_102, rfl, hg_hyp_102⟩ := hv_100
        obtain ⟨v_103, hv_103, hh_104⟩ := hh_101.pin (C := RX13) (T := TX13) (N := 50) hB15 rfl (by decide) hg_kernel_90 (i := 0) (by decide) rfl
        obtain ⟨sort_105, rfl, hg_sort_105⟩ := hv_103
        obtain ⟨v_106, hv_106, hh_107⟩ := hh_104.pin (C := RX13) (T := TX13) (N := 50) hB15 rfl (by decide) hg_kernel_90 (i := 1) (by decide) rfl
        obtain ⟨name_108, rfl, hg_name_108⟩ := hv_106
        obtain ⟨v_109, hv_109, hh_110⟩ := hh_107.pin (C := RX13) (T := TX13) (N := 50) hB15 rfl (by decide) hg_kernel_90 (i := 2) (by decide) rfl
        obtain ⟨one_111, rfl, hg_one_111⟩ := hv_109
        obtain ⟨v_112, hv_112, hh_113⟩ := hh_110.pin (C := RX13) (T := TX13) (N := 50) hB15 rfl (by decide) hg_kernel_90 (i := 3) (by decide) rfl
        obtain ⟨two_114, rfl, hg_two_114⟩ := hv_112
        obtain ⟨v_115, hv_115, hh_116⟩ := hh_113.pin (C := RX13) (T := TX13) (N := 50) hB15 rfl (by decide) hg_kernel_90 (i := 4) (by decide) rfl
        obtain ⟨three_117, rfl, hg_three_117⟩ := hv_115
        obtain ⟨v_118, hv_118, hh_119⟩ := hh_116.pin (C := RX13) (T := TX13) (N := 50) hB15 rfl (by decide) hg_kernel_90 (i := 14) (by decide) rfl
        obtain ⟨arity_120, rfl, hg_arity_120⟩ := hv_118
        obtain ⟨f_ff_121, hh_121⟩ := hh_119.cpin hB160 (by decide) (by decide) hg_fact_93
        clear hh_119
        obtain ⟨f_fg_122, hh_122⟩ := hh_121.cpin hB161 (by decide) (by decide) hg_goal_96
        clear hh_121
        obtain ⟨f_fh_123, hh_123⟩ := hh_122.cpin hB159 (by decide) (by decide) hg_hyps_99
        clear hh_122
        obtain ⟨f_fp_124, hh_124⟩ := hh_123.cpin hB162 (by decide) (by decide) hg_hyp_102
        clear hh_123
        obtain ⟨f_zs_125, hh_125⟩ := hh_124.cpin hB150 (by decide) (by decide) hg_sort_105
        clear hh_124
        obtain ⟨f_zn_126, hh_126⟩ := hh_125.cpin hB151 (by decide) (by decide) hg_name_108
        clear hh_125
        obtain ⟨f_za_127, hh_127⟩ := hh_126.cpin hB152 (by decide) (by decide) hg_one_111
        clear hh_126
        obtain ⟨f_zb_128, hh_128⟩ := hh_127.cpin hB153 (by decide) (by decide) hg_two_114
        clear hh_127
        obtain ⟨f_zc_129, hh_129⟩ := hh_128.cpin hB154 (by decide) (by decide) hg_three_117
        clear hh_128
        obtain ⟨f_zy_130, hh_130⟩ := hh_129.cpin hB165 (by decide) (by decide) hg_arity_120
        clear hh_129
        refine va_callv (A0 := jA base) (H0 := s.heap) (va_runV (As := [.ref ret_31, .int (sn ret_31)]) (rest := []) ⟨hx, hb, hml, hown, hts⟩ (uX14_reach l dC dI ca base B hB hAp hB14 hB15 hB16 hB101 hB103 hB150 hB151 hB152 hB153 hB154 hB155 hB156 hB157 hB158 hB159 hB160 hB161 hB162 hB163 hB165 hB166 hB167 hB168 hB169 hB190 hB191 hB192 G0 H_84 r0 ret_31 (sn ret_31) yb_42 ye_42 kernel_90 fact_93 goal_96 hyps_99 hyp_102 sort_105 name_108 one_111 two_114 three_117 arity_120 (sn ret_31).toInt fb_42 fe_42 f_ff_121 f_fg_122 f_fh_123 f_fp_124 (jK.mk f_zs_125 f_zn_126 f_za_127 f_zb_128 f_zc_129 f_zy_130)) (cwV 2 hts (jgV (jWr_59 _ (List.mem_of_getElem? (i := 6) rfl)) (jWr_59 _ (List.mem_of_getElem? (i := 7) rfl)) (jWr_59 _ (List.mem_of_getElem? (i := 8) rfl)) (jWr_1 _ (List.mem_of_getElem? (i := 5) rfl)) (jWr_59 _ (List.mem_of_getElem? (i := 9) rfl))) rfl rfl rfl (by decide +kernel) ⟨by rw [← hR]; exact Nat.le_of_ble_eq_true rfl, by rw [← hR]; exact Nat.le_of_ble_eq_true rfl⟩) ⟨fun a U g mk q => by obtain ⟨q0, q1, q2, qK, q10, q11, q12, q13, q14, q15, q16, q17, q18, q19, q20, q21, q22, q23, q24, q25, q26, q27⟩ := q; exact ⟨q0, q1, q2, jG.calling g mk a qK, q10, q11, q12, q13, q14, q15, q16, q17, q18, q19, q20, q21, q22, q23, q24, q25, q26, q27⟩, hh_130.recv (C := RX14) (T := TX14) (N := 74) hB16 rfl (by decide) hg_r0 hK, fun U hU hW => ⟨rfl, hU, hh_130.2.1, hG.step hW hU hh_130.1, hg_ret_31, hg_r0, hg_yb_42, hg_ye_42, hg_kernel_90, hg_fact_93, hg_goal_96, hg_hyps_99, hg_hyp_102, hg_sort_105, hg_name_108, hg_one_111, hg_two_114, hg_three_117, hg_arity_120, (hh_130.2.2.1.sub (L1 := [(ret_31, 14, 6, .ref yb_42), (ret_31, 14, 7, .ref ye_42), (r0, 16, 58, .ref kernel_90), (kernel_90, 15, 17, .ref fact_93), (kernel_90, 15, 22, .ref goal_96), (kernel_90, 15, 25, .ref hyps_99), (kernel_90, 15, 27, .ref hyp_102), (kernel_90, 15, 0, .ref sort_105), (kernel_90, 15, 1, .ref name_108), (kernel_90, 15, 2, .ref one_111), (kernel_90, 15, 3, .ref two_114), (kernel_90, 15, 4, .ref three_117), (kernel_90, 15, 14, .ref arity_120)]) [14, 15, 10, 9, 8, 7, 6, 5, 4, 3, 2, 1, 0] rfl), (hh_130.2.2.2.2.2.2.2.1.sub (L1 := [(yb_42, 190, 40, ca 1, fb_42), (ye_42, 191, 40, ca 1, fe_42), (fact_93, 160, 16, ca 1, f_ff_121), (goal_96, 161, 46, ca 1, f_fg_122), (hyps_99, 159, 46, ca 1, f_fh_123), (hyp_102, 162, 368, ca 1, f_fp_124), (sort_105, 150, 120000, ca 1, f_zs_125), (name_108, 151, 120000, ca 1, f_zn_126), (one_111, 152, 120000, ca 1, f_za_127), (two_114, 153, 120000, ca 1, f_zb_128), (three_117, 154, 120000, ca 1, f_zc_129), (arity_120, 165, 16, ca 1, f_zy_130)]) [12, 13, 9, 8, 7, 6, 5, 4, 3, 2, 1, 0] rfl), by first | omega | (refine ⟨?_, ?_, ?_, ?_⟩ <;> (first | omega | rfl | assumption | decide | exact Or.inl rfl | exact Or.inr rfl | (simp only; omega)))⟩⟩ rfl rfl hl.1 rfl (lv_room (Nat.le_of_ble_eq_true rfl)) dX14_askStatement_72 ⟨Nat.zero_le _, Nat.zero_le _⟩) hh_130.1 (fun q _ h => h) (fun q h => h) (fun u_86 t_86 H_86 locs_86 ht_86 hvm_86 hr_87 hb_86 hz_86 hk_86 hS_86 => ?_)
        obtain ⟨qn_86, qy_86, qf_86, qg_86, qp_86, ql_86, qc_86, qz_86, gf_86, gg_86, gh_86, gp_86, D_86⟩ := u_86
        rw [ht_86] at hb_86
        obtain ⟨⟨hb_861, hb_862, hb_863, hb_864, hb_865⟩, hb_866⟩ := hb_86
        have hh_86 : jSt (dC, dI) B base G0 G0 EX14_askStatement s.heap 0 0 [(kernel_90, 15, 5, .int qn_86), (kernel_90, 15, 11, .int qy_86), (kernel_90, 15, 15, .int qf_86), (kernel_90, 15, 21, .int qg_86), (kernel_90, 15, 18, .int qp_86), (kernel_90, 15, 20, .int ql_86), (kernel_90, 15, 10, .int qc_86), (kernel_90, 15, 7, .int qz_86), (kernel_90, 15, 14, .ref arity_120), (kernel_90, 15, 4, .ref three_117), (kernel_90, 15, 3, .ref two_114), (kernel_90, 15, 2, .ref one_111), (kernel_90, 15, 1, .ref name_108), (kernel_90, 15, 0, .ref sort_105), (kernel_90, 15, 27, .ref hyp_102), (kernel_90, 15, 25, .ref hyps_99), (kernel_90, 15, 22, .ref goal_96), (kernel_90, 15, 17, .ref fact_93), (r0, 16, 58, .ref kernel_90), (r0, 16, 23, .ref to_52), (r0, 16, 22, .ref from_48), (ret_31, 14, 9, .int (ck ret_31)), (ret_31, 14, 6, .ref yb_42), (ret_31, 14, 7, .ref ye_42), (ret_31, 14, 5, .int (sn ret_31)), (r0, 16, 41, .ref dd), (r0, 16, 42, .int dc), (r0, 16, 60, .ref co), (r0, 16, 61, .ref cs), (r0, 16, 46, .ref ol), (r0, 16, 47, .ref nw), (r0, 16, 71, .ref td)] [(fact_93, 160, 16, ca 1, gf_86), (goal_96, 161, 46, ca 1, gg_86), (hyps_99, 159, 46, ca 1, gh_86), (hyp_102, 162, 368, ca 1, gp_86), (sort_105, 150, 120000, ca 1, D_86.s), (name_108, 151, 120000, ca 1, D_86.n), (one_111, 152, 120000, ca 1, D_86.a), (two_114, 153, 120000, ca 1, D_86.b), (three_117, 154, 120000, ca 1, D_86.c), (arity_120, 165, 16, ca 1, D_86.y), (to_52, 123, 3100, ca 1, f_to_53), (from_48, 122, 3100, ca 1, f_from_49), (yb_42, 190, 40, ca 1, fb_42), (ye_42, 191, 40, ca 1, fe_42), (cs, 207, 2, ca 1, fs)] [(jFs, jDY dC dI ca G0 none sn), (jF9, jVl dC dI G0 9 ck), ([(201, 0)], jQc dC dI (ca 4) dd 3 fd), ([(208, 0)], jQc dC dI (ca 4) co 2 fo)] H_86 locs_86 := ((hh_130.call hb_861 hb_862 hb_863 hb_864 hS_86 rfl (L1 := [(kernel_90, 15, 14, .ref arity_120), (kernel_90, 15, 4, .ref three_117), (kernel_90, 15, 3, .ref two_114), (kernel_90, 15, 2, .ref one_111), (kernel_90, 15, 1, .ref name_108), (kernel_90, 15, 0, .ref sort_105), (kernel_90, 15, 27, .ref hyp_102), (kernel_90, 15, 25, .ref hyps_99), (kernel_90, 15, 22, .ref goal_96), (kernel_90, 15, 17, .ref fact_93), (r0, 16, 58, .ref kernel_90), (r0, 16, 23, .ref to_52), (r0, 16, 22, .ref from_48), (ret_31, 14, 9, .int (ck ret_31)), (ret_31, 14, 6, .ref yb_42), (ret_31, 14, 7, .ref ye_42), (ret_31, 14, 5, .int (sn ret_31)), (r0, 16, 41, .ref dd), (r0, 16, 42, .int dc), (r0, 16, 60, .ref co), (r0, 16, 61, .ref cs), (r0, 16, 46, .ref ol), (r0, 16, 47, .ref nw), (r0, 16, 71, .ref td)]) [0, 1, 2, 3, 4, 5, 6, 7, 8, 9, 10, 11, 12, 13, 14, 15, 16, 23, 24, 25, 26, 27, 28, 29] rfl rfl (M1 := [(to_52, 123, 3100, ca 1, f_to_53), (from_48, 122, 3100, ca 1, f_from_49), (yb_42, 190, 40, ca 1, fb_42), (ye_42, 191, 40, ca 1, fe_42), (cs, 207, 2, ca 1, fs)]) [10, 11, 12, 13, 14] rfl rfl (I1 := [(jFs, jDY dC dI ca G0 none sn), (jF9, jVl dC dI G0 9 ck), ([(201, 0)], jQc dC dI (ca 4) dd 3 fd), ([(208, 0)], jQc dC dI (ca 4) co 2 fo)]) [0, 1, 2, 3] rfl rfl).more hb_865).moreM hb_866
        clear hh_130 ht_86 hvm_86 hz_86 hk_86 hS_86 hb_861 hb_862 hb_863 hb_864 hb_865
        clear hb_866
        try simp only at hr_87
        obtain ⟨hr_87_0, hr_87_1, hr_87_2, hr_87_3, hr_87_4, hr_87_5⟩ := hr_87
        have hh_131 := hh_86.sub (L1 := [(kernel_90, 15, 5, .int qn_86), (kernel_90, 15, 11, .int qy_86), (kernel_90, 15, 15, .int qf_86), (kernel_90, 15, 21, .int qg_86), (kernel_90, 15, 14, .ref arity_120), (kernel_90, 15, 4, .ref three_117), (kernel_90, 15, 3, .ref two_114), (kernel_90, 15, 2, .ref one_111), (kernel_90, 15, 1, .ref name_108), (kernel_90, 15, 0, .ref sort_105), (kernel_90, 15, 27, .ref hyp_102), (kernel_90, 15, 25, .ref hyps_99), (kernel_90, 15, 22, .ref goal_96), (kernel_90, 15, 17, .ref fact_93), (r0, 16, 58, .ref kernel_90), (r0, 16, 23, .ref to_52), (r0, 16, 22, .ref from_48), (ret_31, 14, 9, .int (ck ret_31)), (ret_31, 14, 6, .ref yb_42), (ret_31, 14, 7, .ref ye_42), (ret_31, 14, 5, .int (sn ret_31)), (r0, 16, 41, .ref dd), (r0, 16, 42, .int dc), (r0, 16, 60, .ref co), (r0, 16, 61, .ref cs), (r0, 16, 46, .ref ol), (r0, 16, 47, .ref nw), (r0, 16, 71, .ref td)]) [0, 1, 2, 3, 8, 9, 10, 11, 12, 13, 14, 15, 16, 17, 18, 19, 20, 21, 22, 23, 24, 25, 26, 27, 28, 29, 30, 31] rfl (M1 := [(fact_93, 160, 16, ca 1, gf_86), (goal_96, 161, 46, ca 1, gg_86), (hyps_99, 159, 46, ca 1, gh_86), (hyp_102, 162, 368, ca 1, gp_86), (sort_105, 150, 120000, ca 1, D_86.s), (name_108, 151, 120000, ca 1, D_86.n), (one_111, 152, 120000, ca 1, D_86.a), (two_114, 153, 120000, ca 1, D_86.b), (three_117, 154, 120000, ca 1, D_86.c), (arity_120, 165, 16, ca 1, D_86.y), (to_52, 123, 3100, ca 1, f_to_53), (from_48, 122, 3100, ca 1, f_from_49), (yb_42, 190, 40, ca 1, fb_42), (ye_42, 191, 40, ca 1, fe_42), (cs, 207, 2, ca 1, fs)]) [0, 1, 2, 3, 4, 5, 6, 7, 8, 9, 10, 11, 12, 13, 14] rfl (I1 := [(jFs, jDY dC dI ca G0 none sn), (jF9, jVl dC dI G0 9 ck), ([(201, 0)], jQc dC dI (ca 4) dd 3 fd), ([(208, 0)], jQc dC dI (ca 4) co 2 fo)]) [0, 1, 2, 3] rfl
        clear hh_86
        have hKx := hr_87_2
        obtain ⟨x1, x2, x3, x4, x5, x6, x7, x8, x9, x10⟩ := hKx
        refine lv_aload_n hx hb dX14_askStatement_75 rfl (lv_at hl 2 rfl) ?_
        refine lv_aload_n hx hb dX14_askStatement_76 rfl (lv_at hl 2 rfl) ?_
        obtain ⟨v_132, hv_132, hh_133⟩ := hh_131.pin (C := RX14) (T := TX14) (N := 74) hB16 rfl (by decide) hg_r0 (i := 27) (by decide) rfl
        clear hh_131
        obtain ⟨pool_134, rfl, hg_pool_134⟩ := hv_132
        refine j7_read hx hb hown hK (C := RX14) (T := TX14) (N := 74) rfl hly_16_27 hlk_65 (hh_133.at 0 rfl) dX14_askStatement_77 ?_
        refine lv_aload_n hx hb dX14_askStatement_80 rfl (lv_at hl 2 rfl) ?_
        refine j7_read hx hb hown hK (C := RX14) (T := TX14) (N := 74) rfl hly_16_22 hlk_52 (hh_133.at 17 rfl) dX14_askStatement_81 ?_
        refine lv_iload_n hx hb dX14_askStatement_84 rfl (lv_at hl 0 rfl) ?_
        refine j7_ialdM hx hb hK hh_133 hB122 1 rfl (by decide) hg_from_48 (x := r_37.toInt) (rfl) (by omega) (j := 11) rfl dX14_askStatement_85 (fun z_135 ez_135 (hz_135 : 0 ≤ z_135.toInt ∧ z_135.toInt ≤ 3100) => ?_)
        have hqz_135 : z_135.toInt = jSo f_from_49 (r_37.toInt) := by unfold jSo; rw [ez_135]
        refine lv_aload_n hx hb dX14_askStatement_86 rfl (lv_at hl 2 rfl) ?_
        refine j7_read hx hb hown hK (C := RX14) (T := TX14) (N := 74) rfl hly_16_23 hlk_55 (hh_133.at 16 rfl) dX14_askStatement_87 ?_
        refine lv_iload_n hx hb dX14_askStatement_90 rfl (lv_at hl 0 rfl) ?_
        refine j7_ialdM hx hb hK hh_133 hB123 1 rfl (by decide) hg_to_52 (x := r_37.toInt) (rfl) (by omega) (j := 10) rfl dX14_askStatement_91 (fun z_136 ez_136 (hz_136 : 0 ≤ z_136.toInt ∧ z_136.toInt ≤ 3100) => ?_)
        have hqz_136 : z_136.toInt = jSo f_to_53 (r_37.toInt) := by unfold jSo; rw [ez_136]
        refine lv_aload_n hx hb dX14_askStatement_92 rfl (lv_at hl 2 rfl) ?_
        refine j7_read hx hb hown hK (C := RX14) (T := TX14) (N := 74) rfl hly_16_22 hlk_52 (hh_133.at 17 rfl) dX14_askStatement_93 ?_
        refine lv_iload_n hx hb dX14_askStatement_96 rfl (lv_at hl 0 rfl) ?_
        refine j7_ialdM hx hb hK hh_133 hB122 1 rfl (by decide) hg_from_48 (x := r_37.toInt) (rfl) (by omega) (j := 11) rfl dX14_askStatement_97 (fun z_137 ez_137 (hz_137 : 0 ≤ z_137.toInt ∧ z_137.toInt ≤ 3100) => ?_)
        have hqz_137 : z_137.toInt = jSo f_from_49 (r_37.toInt) := by unfold jSo; rw [ez_137]
        refine lv_isub hx hb dX14_askStatement_98 ?_
        refine lv_topi (fun z_138 ez_138 => ?_)
        have hz_138 : z_138.toInt = z_136.toInt - z_137.toInt := by rw [ez_138]; exact jb_isub2 (rfl) (rfl) (by omega)
        refine va_callv (A0 := jA base) (H0 := s.heap) (va_runV (As := [.ref pool_134, .int z_135, .int z_138]) (rest := []) ⟨hx, hb, hml, hown, hts⟩ (uX14_statementOfP l dC dI ca base B hB hAp hB15 hB16 hB101 hB127 hB150 hB151 hB152 hB153 hB154 hB155 hB156 hB160 hB163 hB164 hB165 hB166 G0 H_86 r0 pool_134 z_135 z_138 3300 kernel_90 qf_86 qy_86 fact_93 sort_105 name_108 one_111 two_114 three_117 arity_120 qn_86.toInt qy_86.toInt gf_86 D_86) (cwV 3 hts (jgV (jWr_72 _ (List.mem_of_getElem? (i := 9) rfl)) (jWr_72 _ (List.mem_of_getElem? (i := 10) rfl)) (jWr_72 _ (List.mem_of_getElem? (i := 11) rfl)) (jWr_1 _ (List.mem_of_getElem? (i := 5) rfl)) (jWr_72 _ (List.mem_of_getElem? (i := 12) rfl))) rfl rfl rfl (by decide +kernel) ⟨by rw [← hR]; exact Nat.le_of_ble_eq_true rfl, by rw [← hR]; exact Nat.le_of_ble_eq_true rfl⟩) ⟨fun a U g mk q => by obtain ⟨q0, q1, q2, qK, q10, q11, q12, q13, q14, q15, q16, q17, q18, q19, q20, q21, q22⟩ := q; exact ⟨q0, q1, q2, jG.calling g mk a qK, q10, q11, q12, q13, q14, q15, q16, q17, q18, q19, q20, q21, q22⟩, hh_133.recv (C := RX14) (T := TX14) (N := 74) hB16 rfl (by decide) hg_r0 hK, fun U hU hW => ⟨rfl, hU, hh_133.2.1, hG.step hW hU hh_133.1, hg_pool_134, hg_r0, hg_kernel_90, hg_fact_93, hg_sort_105, hg_name_108, hg_one_111, hg_two_114, hg_three_117, hg_arity_120, (hh_133.2.2.1.sub (L1 := [(r0, 16, 58, .ref kernel_90), (kernel_90, 15, 15, .int qf_86), (kernel_90, 15, 11, .int qy_86), (kernel_90, 15, 17, .ref fact_93), (kernel_90, 15, 0, .ref sort_105), (kernel_90, 15, 1, .ref name_108), (kernel_90, 15, 2, .ref one_111), (kernel_90, 15, 3, .ref two_114), (kernel_90, 15, 4, .ref three_117), (kernel_90, 15, 14, .ref arity_120)]) [15, 3, 2, 14, 10, 9, 8, 7, 6, 5] rfl), (hh_133.2.2.2.2.2.2.2.1.sub (L1 := [(fact_93, 160, 16, ca 1, gf_86), (sort_105, 150, 120000, ca 1, D_86.s), (name_108, 151, 120000, ca 1, D_86.n), (one_111, 152, 120000, ca 1, D_86.a), (two_114, 153, 120000, ca 1, D_86.b), (three_117, 154, 120000, ca 1, D_86.c), (arity_120, 165, 16, ca 1, D_86.y)]) [0, 4, 5, 6, 7, 8, 9] rfl), ⟨(by first | assumption | exact x8 | omega), (by first | omega | rfl | assumption | exact x8), (by first | omega | rfl | assumption | exact x8), (by first | omega | rfl | assumption | exact x8), (by first | omega | rfl | assumption | exact x8), (by first | omega | rfl | assumption | exact x8), (by first | omega | rfl | assumption | exact x8), (by first | omega | rfl | assumption | exact x8), (by first | omega | rfl | assumption | exact x8), (by first | omega | rfl | assumption | exact x8)⟩⟩⟩ rfl rfl hl.1 rfl (lv_room (Nat.le_of_ble_eq_true rfl)) dX14_askStatement_99 ⟨Nat.zero_le _, Nat.zero_le _⟩) hh_133.1 (fun q _ h => h) (fun q h => h) (fun u_139 t_139 H_139 locs_139 ht_139 hvm_139 hr_140 hb_139 hz_139 hk_139 hS_139 => ?_)
        rw [ht_139] at hb_139
        obtain ⟨hb_1391, hb_1392, hb_1393, hb_1394, hb_1395⟩ := hb_139
        have hh_139 : jSt (dC, dI) B base G0 G0 EX14_askStatement s.heap 0 0 [(r0, 16, 27, .ref pool_134), (kernel_90, 15, 5, .int qn_86), (kernel_90, 15, 11, .int qy_86), (kernel_90, 15, 15, .int qf_86), (kernel_90, 15, 21, .int qg_86), (kernel_90, 15, 14, .ref arity_120), (kernel_90, 15, 4, .ref three_117), (kernel_90, 15, 3, .ref two_114), (kernel_90, 15, 2, .ref one_111), (kernel_90, 15, 1, .ref name_108), (kernel_90, 15, 0, .ref sort_105), (kernel_90, 15, 27, .ref hyp_102), (kernel_90, 15, 25, .ref hyps_99), (kernel_90, 15, 22, .ref goal_96), (kernel_90, 15, 17, .ref fact_93), (r0, 16, 58, .ref kernel_90), (r0, 16, 23, .ref to_52), (r0, 16, 22, .ref from_48), (ret_31, 14, 9, .int (ck ret_31)), (ret_31, 14, 6, .ref yb_42), (ret_31, 14, 7, .ref ye_42), (ret_31, 14, 5, .int (sn ret_31)), (r0, 16, 41, .ref dd), (r0, 16, 42, .int dc), (r0, 16, 60, .ref co), (r0, 16, 61, .ref cs), (r0, 16, 46, .ref ol), (r0, 16, 47, .ref nw), (r0, 16, 71, .ref td)] [(fact_93, 160, 16, ca 1, gf_86), (goal_96, 161, 46, ca 1, gg_86), (hyps_99, 159, 46, ca 1, gh_86), (hyp_102, 162, 368, ca 1, gp_86), (sort_105, 150, 120000, ca 1, D_86.s), (name_108, 151, 120000, ca 1, D_86.n), (one_111, 152, 120000, ca 1, D_86.a), (two_114, 153, 120000, ca 1, D_86.b), (three_117, 154, 120000, ca 1, D_86.c), (arity_120, 165, 16, ca 1, D_86.y), (to_52, 123, 3100, ca 1, f_to_53), (from_48, 122, 3100, ca 1, f_from_49), (yb_42, 190, 40, ca 1, fb_42), (ye_42, 191, 40, ca 1, fe_42), (cs, 207, 2, ca 1, fs)] [(jFs, jDY dC dI ca G0 none sn), (jF9, jVl dC dI G0 9 ck), ([(201, 0)], jQc dC dI (ca 4) dd 3 fd), ([(208, 0)], jQc dC dI (ca 4) co 2 fo)] H_139 locs_139 := ((hh_133.call hb_1391 hb_1392 hb_1393 hb_1394 hS_139 rfl (L1 := [(r0, 16, 27, .ref pool_134), (kernel_90, 15, 5, .int qn_86), (kernel_90, 15, 11, .int qy_86), (kernel_90, 15, 15, .int qf_86), (kernel_90, 15, 21, .int qg_86), (kernel_90, 15, 14, .ref arity_120), (kernel_90, 15, 4, .ref three_117), (kernel_90, 15, 3, .ref two_114), (kernel_90, 15, 2, .ref one_111), (kernel_90, 15, 1, .ref name_108), (kernel_90, 15, 0, .ref sort_105), (kernel_90, 15, 27, .ref hyp_102), (kernel_90, 15, 25, .ref hyps_99), (kernel_90, 15, 22, .ref goal_96), (kernel_90, 15, 17, .ref fact_93), (r0, 16, 58, .ref kernel_90), (r0, 16, 23, .ref to_52), (r0, 16, 22, .ref from_48), (ret_31, 14, 9, .int (ck ret_31)), (ret_31, 14, 6, .ref yb_42), (ret_31, 14, 7, .ref ye_42), (ret_31, 14, 5, .int (sn ret_31)), (r0, 16, 41, .ref dd), (r0, 16, 42, .int dc), (r0, 16, 60, .ref co), (r0, 16, 61, .ref cs), (r0, 16, 46, .ref ol), (r0, 16, 47, .ref nw), (r0, 16, 71, .ref td)]) [0, 1, 2, 3, 4, 5, 6, 7, 8, 9, 10, 11, 12, 13, 14, 15, 16, 17, 18, 19, 20, 21, 22, 23, 24, 25, 26, 27, 28] rfl rfl (M1 := [(fact_93, 160, 16, ca 1, gf_86), (goal_96, 161, 46, ca 1, gg_86), (hyps_99, 159, 46, ca 1, gh_86), (hyp_102, 162, 368, ca 1, gp_86), (sort_105, 150, 120000, ca 1, D_86.s), (name_108, 151, 120000, ca 1, D_86.n), (one_111, 152, 120000, ca 1, D_86.a), (two_114, 153, 120000, ca 1, D_86.b), (three_117, 154, 120000, ca 1, D_86.c), (arity_120, 165, 16, ca 1, D_86.y), (to_52, 123, 3100, ca 1, f_to_53), (from_48, 122, 3100, ca 1, f_from_49), (yb_42, 190, 40, ca 1, fb_42), (ye_42, 191, 40, ca 1, fe_42), (cs, 207, 2, ca 1, fs)]) [0, 1, 2, 3, 4, 5, 6, 7, 8, 9, 10, 11, 12, 13, 14] rfl rfl (I1 := [(jFs, jDY dC dI ca G0 none sn), (jF9, jVl dC dI G0 9 ck), ([(201, 0)], jQc dC dI (ca 4) dd 3 fd), ([(208, 0)], jQc dC dI (ca 4) co 2 fo)]) [0, 1, 2, 3] rfl rfl).more hb_1395)
        clear hh_133 ht_139 hvm_139 hz_139 hk_139 hS_139 hb_1391 hb_1392 hb_1393 hb_1394 hb_1395
        refine lv_aload_n hx hb dX14_askStatement_102 rfl (lv_at hl 2 rfl) ?_
        refine va_callv (A0 := jA base) (H0 := s.heap) (va_runV (As := []) (rest := []) ⟨hx, hb, hml, hown, hts⟩ (uX14_endAnswer l dC dI ca base B hB hAp hB16 hB101 G0 H_139 r0) (cwV 0 hts (jgV (jWr_55 _ (List.mem_of_getElem? (i := 6) rfl)) (jWr_55 _ (List.mem_of_getElem? (i := 7) rfl)) (jWr_55 _ (List.mem_of_getElem? (i := 8) rfl)) (jWr_1 _ (List.mem_of_getElem? (i := 5) rfl)) (jWr_55 _ (List.mem_of_getElem? (i := 9) rfl))) rfl rfl rfl (by decide +kernel) ⟨by rw [← hR]; exact Nat.le_of_ble_eq_true rfl, by rw [← hR]; exact Nat.le_of_ble_eq_true rfl⟩) ⟨fun a U g mk q => by obtain ⟨q0, q1, q2, qK, q10, q11, q12⟩ := q; exact ⟨q0, q1, q2, jG.calling g mk a qK, q10, q11, q12⟩, hh_139.recv (C := RX14) (T := TX14) (N := 74) hB16 rfl (by decide) hg_r0 hK, fun U hU hW => ⟨rfl, hU, hh_139.2.1, hG.step hW hU hh_139.1, hg_r0, jP.nil, trivial⟩⟩ rfl rfl hl.1 rfl (lv_room (Nat.le_of_ble_eq_true rfl)) dX14_askStatement_103 ⟨Nat.zero_le _, Nat.zero_le _⟩) hh_139.1 (fun q _ h => h) (fun q h => h) (fun u_141 t_141 H_141 locs_141 ht_141 hvm_141 hr_142 hb_141 hz_141 hk_141 hS_141 => ?_)
        rw [ht_141] at hb_141
        obtain ⟨hb_1411, hb_1412, hb_1413, hb_1414, hb_1415⟩ := hb_141
        have hh_141 : jSt (dC, dI) B base G0 G0 EX14_askStatement s.heap 0 0 [(r0, 16, 27, .ref pool_134), (kernel_90, 15, 5, .int qn_86), (kernel_90, 15, 11, .int qy_86), (kernel_90, 15, 15, .int qf_86), (kernel_90, 15, 21, .int qg_86), (kernel_90, 15, 14, .ref arity_120), (kernel_90, 15, 4, .ref three_117), (kernel_90, 15, 3, .ref two_114), (kernel_90, 15, 2, .ref one_111), (kernel_90, 15, 1, .ref name_108), (kernel_90, 15, 0, .ref sort_105), (kernel_90, 15, 27, .ref hyp_102), (kernel_90, 15, 25, .ref hyps_99), (kernel_90, 15, 22, .ref goal_96), (kernel_90, 15, 17, .ref fact_93), (r0, 16, 58, .ref kernel_90), (r0, 16, 23, .ref to_52), (r0, 16, 22, .ref from_48), (ret_31, 14, 9, .int (ck ret_31)), (ret_31, 14, 6, .ref yb_42), (ret_31, 14, 7, .ref ye_42), (ret_31, 14, 5, .int (sn ret_31)), (r0, 16, 41, .ref dd), (r0, 16, 42, .int dc), (r0, 16, 60, .ref co), (r0, 16, 61, .ref cs), (r0, 16, 46, .ref ol), (r0, 16, 47, .ref nw), (r0, 16, 71, .ref td)] [(fact_93, 160, 16, ca 1, gf_86), (goal_96, 161, 46, ca 1, gg_86), (hyps_99, 159, 46, ca 1, gh_86), (hyp_102, 162, 368, ca 1, gp_86), (sort_105, 150, 120000, ca 1, D_86.s), (name_108, 151, 120000, ca 1, D_86.n), (one_111, 152, 120000, ca 1, D_86.a), (two_114, 153, 120000, ca 1, D_86.b), (three_117, 154, 120000, ca 1, D_86.c), (arity_120, 165, 16, ca 1, D_86.y), (to_52, 123, 3100, ca 1, f_to_53), (from_48, 122, 3100, ca 1, f_from_49), (yb_42, 190, 40, ca 1, fb_42), (ye_42, 191, 40, ca 1, fe_42), (cs, 207, 2, ca 1, fs)] [(jFs, jDY dC dI ca G0 none sn), (jF9, jVl dC dI G0 9 ck), ([(201, 0)], jQc dC dI (ca 4) dd 3 fd), ([(208, 0)], jQc dC dI (ca 4) co 2 fo)] H_141 locs_141 := ((hh_139.call hb_1411 hb_1412 hb_1413 hb_1414 hS_141 rfl (L1 := [(r0, 16, 27, .ref pool_134), (kernel_90, 15, 5, .int qn_86), (kernel_90, 15, 11, .int qy_86), (kernel_90, 15, 15, .int qf_86), (kernel_90, 15, 21, .int qg_86), (kernel_90, 15, 14, .ref arity_120), (kernel_90, 15, 4, .ref three_117), (kernel_90, 15, 3, .ref two_114), (kernel_90, 15, 2, .ref one_111), (kernel_90, 15, 1, .ref name_108), (kernel_90, 15, 0, .ref sort_105), (kernel_90, 15, 27, .ref hyp_102), (kernel_90, 15, 25, .ref hyps_99), (kernel_90, 15, 22, .ref goal_96), (kernel_90, 15, 17, .ref fact_93), (r0, 16, 58, .ref kernel_90), (r0, 16, 23, .ref to_52), (r0, 16, 22, .ref from_48), (ret_31, 14, 9, .int (ck ret_31)), (ret_31, 14, 6, .ref yb_42), (ret_31, 14, 7, .ref ye_42), (ret_31, 14, 5, .int (sn ret_31)), (r0, 16, 41, .ref dd), (r0, 16, 42, .int dc), (r0, 16, 60, .ref co), (r0, 16, 61, .ref cs), (r0, 16, 46, .ref ol), (r0, 16, 47, .ref nw), (r0, 16, 71, .ref td)]) [0, 1, 2, 3, 4, 5, 6, 7, 8, 9, 10, 11, 12, 13, 14, 15, 16, 17, 18, 19, 20, 21, 22, 23, 24, 25, 26, 27, 28] rfl rfl (M1 := [(fact_93, 160, 16, ca 1, gf_86), (goal_96, 161, 46, ca 1, gg_86), (hyps_99, 159, 46, ca 1, gh_86), (hyp_102, 162, 368, ca 1, gp_86), (sort_105, 150, 120000, ca 1, D_86.s), (name_108, 151, 120000, ca 1, D_86.n), (one_111, 152, 120000, ca 1, D_86.a), (two_114, 153, 120000, ca 1, D_86.b), (three_117, 154, 120000, ca 1, D_86.c), (arity_120, 165, 16, ca 1, D_86.y), (to_52, 123, 3100, ca 1, f_to_53), (from_48, 122, 3100, ca 1, f_from_49), (yb_42, 190, 40, ca 1, fb_42), (ye_42, 191, 40, ca 1, fe_42), (cs, 207, 2, ca 1, fs)]) [0, 1, 2, 3, 4, 5, 6, 7, 8, 9, 10, 11, 12, 13, 14] rfl rfl (I1 := [(jFs, jDY dC dI ca G0 none sn), (jF9, jVl dC dI G0 9 ck), ([(201, 0)], jQc dC dI (ca 4) dd 3 fd), ([(208, 0)], jQc dC dI (ca 4) co 2 fo)]) [0, 1, 2, 3] rfl rfl).more hb_1415)
        clear hh_139 ht_141 hvm_141 hz_141 hk_141 hS_141 hb_1411 hb_1412 hb_1413 hb_1414 hb_1415
        refine lv_goto (tgt := 199) hx hb dX14_askStatement_106 (by decide) ?_
        rw [hQ]
        exact W.vret hx hb hr (fun t ht hW => ⟨⟨(), rfl, trivial, hh_141.rt (M1 := []) [] rfl ht⟩, by rw [ht]; try exact hh_141.1.1, fun q h9 hq => by rw [ht]; try exact hh_141.1.2.1 q h9 hq⟩) hh_141.1.2.2 dX14_askStatement_199
    · skip
      have c_40' : r_39.toInt = 0 := jb_ne_n (rfl) ((by decide)) c_40
      refine lv_aload_n hx hb dX14_askStatement_41 rfl (lv_at hl 2 rfl) ?_
      refine lv_sipush (v := (-32602)) hx hb dX14_askStatement_42 (by decide) ?_
      refine va_callv (A0 := jA base) (H0 := s.heap) (va_runV (As := [.int (-32602)]) (rest := []) ⟨hx, hb, hml, hown, hts⟩ (uX14_error l dC dI ca base B hB hAp hB16 hB101 G0 H_38 r0 (-32602)) (cwV 1 hts (jgV (jWr_53 _ (List.mem_of_getElem? (i := 9) rfl)) (jWr_53 _ (List.mem_of_getElem? (i := 10) rfl)) (jWr_53 _ (List.mem_of_getElem? (i := 11) rfl)) (jWr_1 _ (List.mem_of_getElem? (i := 5) rfl)) (jWr_53 _ (List.mem_of_getElem? (i := 12) rfl))) rfl rfl rfl (by decide +kernel) ⟨by rw [← hR]; exact Nat.le_of_ble_eq_true rfl, by rw [← hR]; exact Nat.le_of_ble_eq_true rfl⟩) ⟨fun a U g mk q => by obtain ⟨q0, q1, q2, qK, q10, q11, q12⟩ := q; exact ⟨q0, q1, q2, jG.calling g mk a qK, q10, q11, q12⟩, hh_38.recv (C := RX14) (T := TX14) (N := 74) hB16 rfl (by decide) hg_r0 hK, fun U hU hW => ⟨rfl, hU, hh_38.2.1, hG.step hW hU hh_38.1, hg_r0, jP.nil, trivial⟩⟩ rfl rfl hl.1 rfl (lv_room (Nat.le_of_ble_eq_true rfl)) dX14_askStatement_45 ⟨Nat.zero_le _, Nat.zero_le _⟩) hh_38.1 (fun q _ h => h) (fun q h => h) (fun u_143 t_143 H_143 locs_143 ht_143 hvm_143 hr_144 hb_143 hz_143 hk_143 hS_143 => ?_)
      rw [ht_143] at hb_143
      obtain ⟨hb_1431, hb_1432, hb_1433, hb_1434, hb_1435⟩ := hb_143
      have hh_143 : jSt (dC, dI) B base G0 G0 EX14_askStatement s.heap 0 0 [(r0, 16, 27, .ref pool_20), (r0, 16, 21, .ref nameTo_17), (r0, 16, 20, .ref nameFrom_14), (r0, 16, 19, .ref next_11), (r0, 16, 18, .ref heir_8), (r0, 16, 17, .ref sort_5), (r0, 16, 41, .ref dd), (r0, 16, 42, .int dc), (r0, 16, 60, .ref co), (r0, 16, 61, .ref cs), (r0, 16, 46, .ref ol), (r0, 16, 47, .ref nw), (r0, 16, 71, .ref td)] [(pool_20, 127, 3300, ca 1, f_mp_26), (nameTo_17, 121, 3100, ca 1, f_mt_25), (nameFrom_14, 120, 3100, ca 1, f_mf_24), (next_11, 119, 3100, ca 1, f_mx_23), (heir_8, 118, 3100, ca 1, f_mh_22), (sort_5, 117, 3100, ca 1, f_ms_21), (cs, 207, 2, ca 1, fs)] [(jFs, jDY dC dI ca G0 none sn), (jF9, jVl dC dI G0 9 ck), ([(201, 0)], jQc dC dI (ca 4) dd 3 fd), ([(208, 0)], jQc dC dI (ca 4) co 2 fo)] H_143 locs_143 := ((hh_38.call hb_1431 hb_1432 hb_1433 hb_1434 hS_143 rfl (L1 := [(r0, 16, 27, .ref pool_20), (r0, 16, 21, .ref nameTo_17), (r0, 16, 20, .ref nameFrom_14), (r0, 16, 19, .ref next_11), (r0, 16, 18, .ref heir_8), (r0, 16, 17, .ref sort_5), (r0, 16, 41, .ref dd), (r0, 16, 42, .int dc), (r0, 16, 60, .ref co), (r0, 16, 61, .ref cs), (r0, 16, 46, .ref ol), (r0, 16, 47, .ref nw), (r0, 16, 71, .ref td)]) [0, 1, 2, 3, 4, 5, 6, 7, 8, 9, 10, 11, 12] rfl rfl (M1 := [(pool_20, 127, 3300, ca 1, f_mp_26), (nameTo_17, 121, 3100, ca 1, f_mt_25), (nameFrom_14, 120, 3100, ca 1, f_mf_24), (next_11, 119, 3100, ca 1, f_mx_23), (heir_8, 118, 3100, ca 1, f_mh_22), (sort_5, 117, 3100, ca 1, f_ms_21), (cs, 207, 2, ca 1, fs)]) [0, 1, 2, 3, 4, 5, 6] rfl rfl (I1 := [(jFs, jDY dC dI ca G0 none sn), (jF9, jVl dC dI G0 9 ck), ([(201, 0)], jQc dC dI (ca 4) dd 3 fd), ([(208, 0)], jQc dC dI (ca 4) co 2 fo)]) [0, 1, 2, 3] rfl rfl).more hb_1435)
      clear hh_38 ht_143 hvm_143 hz_143 hk_143 hS_143 hb_1431 hb_1432 hb_1433 hb_1434 hb_1435
      refine lv_goto (tgt := 199) hx hb dX14_askStatement_48 (by decide) ?_
      rw [hQ]
      exact W.vret hx hb hr (fun t ht hW => ⟨⟨(), rfl, trivial, hh_143.rt (M1 := []) [] rfl ht⟩, by rw [ht]; try exact hh_143.1.1, fun q h9 hq => by rw [ht]; try exact hh_143.1.2.1 q h9 hq⟩) hh_143.1.2.2 dX14_askStatement_199
set_option maxHeartbeats 4000000 in
set_option maxRecDepth 20000 in
theorem uX14_requested (l : Launch) (dC : Nat → ClassId) (dI : Nat → Nat → Nat) (ca : Nat → ClassId) (base : Nat) (B : jF) (hB : jBok B) (hAp : jAp (dC, dI)) (hB14 : ∀ n G a H, B 14 n G a H ↔ jOb (dC, dI) 14 11 (F14 n G) a H) (hB15 : ∀ n G a H, B 15 n G a H ↔ jOb (dC, dI) 15 50 (F15 n G) a H) (hB16 : ∀ n G a H, B 16 n G a H ↔ jOb (dC, dI) 16 74 (F16 n G) a H) (hB101 : ∀ n G a H, B 101 n G a H ↔ jAr (dC, dI) (ca 1) (fun j z => True) n a H) (hB103 : ∀ n G a H, B 103 n G a H ↔ jAr (dC, dI) (ca 3) (fun j z => (z = 0 ∨ z = 1)) n a H) (hB117 : ∀ n G a H, B 117 n G a H ↔ jAr (dC, dI) (ca 1) (fun j z => True) n a H) (hB118 : ∀ n G a H, B 118 n G a H ↔ jAr (dC, dI) (ca 1) (fun j z => -1 ≤ z.toInt ∧ z.toInt ≤ 3099) n a H) (hB119 : ∀ n G a H, B 119 n G a H ↔ jAr (dC, dI) (ca 1) (fun j z => z.toInt = -1 ∨ (j < z.toInt ∧ z.toInt ≤ 3099)) n a H) (hB120 : ∀ n G a H, B 120 n G a H ↔ jAr (dC, dI) (ca 1) (fun j z => 0 ≤ z.toInt ∧ z.toInt ≤ 3300) n a H) (hB121 : ∀ n G a H, B 121 n G a H ↔ jAr (dC, dI) (ca 1) (fun j z => 0 ≤ z.toInt ∧ z.toInt ≤ 3300) n a H) (hB122 : ∀ n G a H, B 122 n G a H ↔ jAr (dC, dI) (ca 1) (fun j z => 0 ≤ z.toInt ∧ z.toInt ≤ 3100) n a H) (hB123 : ∀ n G a H, B 123 n G a H ↔ jAr (dC, dI) (ca 1) (fun j z => 0 ≤ z.toInt ∧ z.toInt ≤ 3100) n a H) (hB124 : ∀ n G a H, B 124 n G a H ↔ jAr (dC, dI) (ca 3) (fun j z => (z = 0 ∨ z = 1)) n a H) (hB125 : ∀ n G a H, B 125 n G a H ↔ jAr (dC, dI) (ca 1) (fun j z => True) n a H) (hB127 : ∀ n G a H, B 127 n G a H ↔ jAr (dC, dI) (ca 1) (fun j z => True) n a H) (hB150 : ∀ n G a H, B 150 n G a H ↔ jAr (dC, dI) (ca 1) (fun j z => True) n a H) (hB151 : ∀ n G a H, B 151 n G a H ↔ jAr (dC, dI) (ca 1) (fun j z => True) n a H) (hB152 : ∀ n G a H, B 152 n G a H ↔ jAr (dC, dI) (ca 1) (fun j z => True) n a H) (hB153 : ∀ n G a H, B 153 n G a H ↔ jAr (dC, dI) (ca 1) (fun j z => True) n a H) (hB154 : ∀ n G a H, B 154 n G a H ↔ jAr (dC, dI) (ca 1) (fun j z => True) n a H) (hB155 : ∀ n G a H, B 155 n G a H ↔ jAr (dC, dI) (ca 1) (fun j z => 0 ≤ z.toInt ∧ z.toInt ≤ 11990) n a H) (hB156 : ∀ n G a H, B 156 n G a H ↔ jAr (dC, dI) (ca 1) (fun j z => 0 ≤ z.toInt ∧ z.toInt ≤ 10) n a H) (hB157 : ∀ n G a H, B 157 n G a H ↔ jAr (dC, dI) (ca 1) (fun j z => 0 ≤ z.toInt ∧ z.toInt ≤ 1599) n a H) (hB158 : ∀ n G a H, B 158 n G a H ↔ jAr (dC, dI) (ca 1) (fun j z => 0 ≤ z.toInt ∧ z.toInt ≤ 6) n a H) (hB159 : ∀ n G a H, B 159 n G a H ↔ jAr (dC, dI) (ca 1) (fun j z => 0 ≤ z.toInt ∧ z.toInt ≤ 8) n a H) (hB160 : ∀ n G a H, B 160 n G a H ↔ jAr (dC, dI) (ca 1) (fun j z => 0 ≤ z.toInt ∧ z.toInt ≤ 119999) n a H) (hB161 : ∀ n G a H, B 161 n G a H ↔ jAr (dC, dI) (ca 1) (fun j z => 0 ≤ z.toInt ∧ z.toInt ≤ 119999) n a H) (hB162 : ∀ n G a H, B 162 n G a H ↔ jAr (dC, dI) (ca 1) (fun j z => 0 ≤ z.toInt ∧ z.toInt ≤ 119999) n a H) (hB163 : ∀ n G a H, B 163 n G a H ↔ jAr (dC, dI) (ca 1) (fun j z => 0 ≤ z.toInt ∧ z.toInt ≤ 1599) n a H) (hB164 : ∀ n G a H, B 164 n G a H ↔ jAr (dC, dI) (ca 1) (fun j z => 0 ≤ z.toInt ∧ z.toInt ≤ 100000) n a H) (hB165 : ∀ n G a H, B 165 n G a H ↔ jAr (dC, dI) (ca 1) (fun j z => 0 ≤ z.toInt ∧ z.toInt ≤ 3) n a H) (hB166 : ∀ n G a H, B 166 n G a H ↔ jAr (dC, dI) (ca 1) (fun j z => True) n a H) (hB167 : ∀ n G a H, B 167 n G a H ↔ jAr (dC, dI) (ca 1) (fun j z => True) n a H) (hB168 : ∀ n G a H, B 168 n G a H ↔ jAr (dC, dI) (ca 1) (fun j z => 0 ≤ z.toInt ∧ z.toInt ≤ 119999) n a H) (hB169 : ∀ n G a H, B 169 n G a H ↔ jAr (dC, dI) (ca 1) (fun j z => True) n a H) (hB190 : ∀ n G a H, B 190 n G a H ↔ jAr (dC, dI) (ca 1) (fun j z => 0 ≤ z.toInt ∧ z.toInt ≤ 1500) n a H) (hB191 : ∀ n G a H, B 191 n G a H ↔ jAr (dC, dI) (ca 1) (fun j z => 0 ≤ z.toInt ∧ z.toInt ≤ 1500) n a H) (hB192 : ∀ n G a H, B 192 n G a H ↔ jAr (dC, dI) (ca 1) (fun j z => 0 ≤ z.toInt ∧ z.toInt ≤ 2) n a H) (hB201 : ∀ n G a H, B 201 n G a H ↔ jAq (dC, dI) (ca 4) (jQs 14 0) n G a H) (hB202 : ∀ n G a H, B 202 n G a H ↔ jAq (dC, dI) (ca 4) (jQn 14 0) n G a H) (hB203 : ∀ n G a H, B 203 n G a H ↔ jAr (dC, dI) (ca 1) (fun j z => -3300 ≤ z.toInt ∧ z.toInt ≤ 20) n a H) (hB204 : ∀ n G a H, B 204 n G a H ↔ jAr (dC, dI) (ca 1) (fun j z => -3100 ≤ z.toInt ∧ z.toInt ≤ 3100) n a H) (hB206 : ∀ n G a H, B 206 n G a H ↔ jAr (dC, dI) (ca 1) (fun j z => 0 ≤ z.toInt ∧ z.toInt ≤ 40) n a H) (G0 : jT) (H0 : Heap) (r0 : Nat) (a1 : Int32) (a2 : Int32) (dd : Nat) (dc : Int32) (co : Nat) (cs : Nat) (ol : Nat) (nw : Nat) (td : Nat) (sn ck : Nat → Int32) (fd fo : Nat → Option Nat) (fs : Nat → Int32) : Met l yX14_requested (jw yX14_requested cX14_requested 4 none) ({ frames := 1706, cells := 0, slots := 0, locals := 71956 }) (va_Pc [.ref r0, .int a1, .int a2] (fun U => U.heap = H0 ∧ jX B base G0 [] H0 ∧ jG dC dI ca base U ∧ jK2 dC dI ca U ∧ G0 r0 = some (16, 0) ∧ G0 dd = some (201, 3) ∧ G0 co = some (208, 2) ∧ G0 cs = some (207, 2) ∧ G0 ol = some (14, 0) ∧ G0 nw = some (14, 0) ∧ G0 td = some (14, 0) ∧ jP (dC, dI) G0 H0 [(r0, 16, 41, .ref dd), (r0, 16, 42, .int dc), (r0, 16, 60, .ref co), (r0, 16, 61, .ref cs), (r0, 16, 46, .ref ol), (r0, 16, 47, .ref nw), (r0, 16, 71, .ref td)] ∧ jMc (dC, dI) G0 H0 [(cs, 207, 2, ca 1, fs)] ∧ jIs (dC, dI) G0 H0 [(jFs, jDY dC dI ca G0 none sn), (jF9, jVl dC dI G0 9 ck), ([(201, 0)], jQc dC dI (ca 4) dd 3 fd), ([(208, 0)], jQc dC dI (ca 4) co 2 fo)] ∧ jPu sn ck fd fo fs dc.toInt ol nw td ∧ a1.toInt ≤ 3099 ∧ a2.toInt ≤ 3099)) (va_Qv (S := Unit) (fun u => True) (fun u t => jRt (dC, dI) B base G0 EX14_requested H0 [] t.heap) (jA base)) 0 0 (jA base) := by
  refine Met.ofW (cc := cX14_requested) (maxL := 4) (ret := none) (by decide) rfl ?_
  intro p e s m args below meth c s₁ Bd hml hv
  obtain ⟨rfl, hH0, hX, hG, hK2, hg_r0, hg_dd, hg_co, hg_cs, hg_ol, hg_nw, hg_td, hP0, hM0, hI0, hp0, hp1, hp2⟩ := hv
  have hK := hG.1
  have hx := Bd.exec
  have hb := Bd.bytes
  have hr := Bd.returns
  have hts := atoms_spec (ws := (jw yX14_requested cX14_requested 4 none)) Bd.pre
  have htw : ∀ w ∈ jWl, w.before _ s = true := fun w h => hts w (List.mem_cons_of_mem _ h)
  have hown : s.vm.findClass RX14 = some m.cls := findClass_of_methodNamed Bd.named
  have hlocks := Bd.notSynchronized
  obtain ⟨Q, hQ⟩ : ∃ Q, Q = MQ below (va_Qv (S := Unit) (fun u => True) (fun u t => jRt (dC, dI) B base G0 EX14_requested H0 [] t.heap) (jA base)) ([.ref r0, .int a1, .int a2] : List Value).toArray s 0 0 (jA base) := ⟨_, rfl⟩
  rw [← hQ]
  have hl := lv_entry ([.ref r0, .int a1, .int a2]) (n := 4) (Nat.le_of_ble_eq_true rfl)
  rw [lg_entry_eq]
  generalize (lg_sl ([.ref r0, .int a1, .int a2]) ++ List.replicate (4 - (lg_sl ([.ref r0, .int a1, .int a2])).length) Slot.unset).toArray = ls at hl ⊢
  have hl : lv_has ls 4 [(0, .ref r0), (1, .int a1), (2, .int a2)] := hl
  generalize hR : (headSpec (jw yX14_requested cX14_requested 4 none) ({ frames := 1706, cells := 0, slots := 0, locals := 71956 })).room = R
  subst hH0
  have hh : jSt (dC, dI) B base G0 G0 EX14_requested s.heap 0 0 [(r0, 16, 41, .ref dd), (r0, 16, 42, .int dc), (r0, 16, 60, .ref co), (r0, 16, 61, .ref cs), (r0, 16, 46, .ref ol), (r0, 16, 47, .ref nw), (r0, 16, 71, .ref td)] [(cs, 207, 2, ca 1, fs)] [(jFs, jDY dC dI ca G0 none sn), (jF9, jVl dC dI G0 9 ck), ([(201, 0)], jQc dC dI (ca 4) dd 3 fd), ([(208, 0)], jQc dC dI (ca 4) co 2 fo)] s.heap [] := jSt.start hX hP0 hM0 hI0
  clear hX hP0
  have hkm32601 : ((-32601) : Int32).toInt = (-32601) := by decide
  have hkm32600 : ((-32600) : Int32).toInt = (-32600) := by decide
  have hkm32002 : ((-32002) : Int32).toInt = (-32002) := by decide
  have hk0 : (0 : Int32).toInt = 0 := by decide
  have hk1 : (1 : Int32).toInt = 1 := by decide
  have hly_16_34 := htw (u_lay RX14 TX14 34) (jWc_wsX140 _ (u_in_lay (by decide)))
  have hly_16_35 := htw (u_lay RX14 TX14 35) (jWc_wsX140 _ (u_in_lay (by decide)))
  obtain ⟨str458, rstr458, hstr4580⟩ := hG.str (o := RX14) (k := 458) (tx := qtx2947) (List.mem_of_getElem? (i := 2947) (by decide +kernel))
  have h9str458 : qtx2947.length = 10 := by decide +kernel
  have hstr458 : jStr base str458 10 s s.heap := by rw [h9str458] at hstr4580; exact hstr4580
  have hlk_460 := (htw (.fieldLink RX14 460 "ProofServerModel" "initialized" "Z") (jWr_56 _ (List.mem_of_getElem? (i := 23) rfl)))
  have hlk_463 := (htw (.fieldLink RX14 463 "ProofServerModel" "shut" "Z") (jWr_57 _ (List.mem_of_getElem? (i := 0) rfl)))
  obtain ⟨str469, rstr469, hstr4690⟩ := hG.str (o := RX14) (k := 469) (tx := "{\"capabilities\":{\"textDocumentSync\":2}}") (List.mem_of_getElem? (i := 2948) (by decide +kernel))
  have hstr469 : jStr base str469 39 s s.heap := hstr4690
  obtain ⟨str471, rstr471, hstr4710⟩ := hG.str (o := RX14) (k := 471) (tx := "shutdown") (List.mem_of_getElem? (i := 2949) (by decide +kernel))
  have hstr471 : jStr base str471 8 s s.heap := hstr4710
  obtain ⟨str307, rstr307, hstr3070⟩ := hG.str (o := RX14) (k := 307) (tx := "null") (List.mem_of_getElem? (i := 2366) (by decide +kernel))
  have hstr307 : jStr base str307 4 s s.heap := hstr3070
  obtain ⟨str473, rstr473, hstr4730⟩ := hG.str (o := RX14) (k := 473) (tx := "proof/goals") (List.mem_of_getElem? (i := 2950) (by decide +kernel))
  have hstr473 : jStr base str473 11 s s.heap := hstr4730
  obtain ⟨str478, rstr478, hstr4780⟩ := hG.str (o := RX14) (k := 478) (tx := "proof/statement") (List.mem_of_getElem? (i := 2960) (by decide +kernel))
  have hstr478 : jStr base str478 15 s s.heap := hstr4780
  have hrg_a1 := jb_rng a1
  have hrg_a2 := jb_rng a2
  refine lv_aload_n hx hb dX14_requested_0 rfl (lv_at hl 0 rfl) ?_
  refine lv_iload_n hx hb dX14_requested_1 rfl (lv_at hl 1 rfl) ?_
  refine j_ldcSw hx hb hown rstr458 dX14_requested_2 ?_
  refine va_calli (A0 := jA base) (H0 := s.heap) (va_runV (As := [.int a1, .ref str458]) (rest := []) ⟨hx, hb, hml, hown, hts⟩ (uX14_isString_ l dC dI ca base B hB hAp hB16 hB117 hB122 hB123 hB127 G0 s.heap r0 a1 str458 10) (cwV 2 hts (jgV (jWr_55 _ (List.mem_of_getElem? (i := 23) rfl)) (jWr_56 _ (List.mem_of_getElem? (i := 0) rfl)) (jWr_56 _ (List.mem_of_getElem? (i := 1) rfl)) (jWr_1 _ (List.mem_of_getElem? (i := 5) rfl)) (jWr_56 _ (List.mem_of_getElem? (i := 2) rfl))) rfl rfl rfl (by decide +kernel) ⟨by rw [← hR]; exact Nat.le_of_ble_eq_true rfl, by rw [← hR]; exact Nat.le_of_ble_eq_true rfl⟩) ⟨fun a U g mk q => by obtain ⟨q0, q1, q2, qK, q10, q11, q12, q13⟩ := q; exact ⟨q0, q1, q2, jG.calling g mk a qK, (q10.moved (Vm.Alike.refl U.vm)), q11, q12, q13⟩, hh.recv (C := RX14) (T := TX14) (N := 74) hB16 rfl (by decide) hg_r0 hK, fun U hU hW => ⟨rfl, hU, hh.2.1, hG.step hW hU hh.1, (hstr458.moved hW.alike).kept hh.1.2.1, hg_r0, jP.nil, by first | omega | (refine ⟨?_, ?_⟩ <;> (first | omega | rfl | assumption | decide | exact Or.inl rfl | exact Or.inr rfl | (simp only; omega)))⟩⟩ rfl rfl hl.1 rfl (lv_room (Nat.le_of_ble_eq_true rfl)) dX14_requested_5 ⟨Nat.zero_le _, Nat.zero_le _⟩) hh.1 (fun q _ h => h) (fun q h => h) (fun r_2 u_1 t_1 H_1 locs_1 ht_1 hvm_1 hr_2 hb_1 hz_1 hk_1 hS_1 => ?_)
  rw [ht_1] at hb_1
  obtain ⟨hb_11, hb_12, hb_13, hb_14, hb_15⟩ := hb_1
  have hh_1 : jSt (dC, dI) B base G0 G0 EX14_requested s.heap 0 0 [(r0, 16, 41, .ref dd), (r0, 16, 42, .int dc), (r0, 16, 60, .ref co), (r0, 16, 61, .ref cs), (r0, 16, 46, .ref ol), (r0, 16, 47, .ref nw), (r0, 16, 71, .ref td)] [(cs, 207, 2, ca 1, fs)] [(jFs, jDY dC dI ca G0 none sn), (jF9, jVl dC dI G0 9 ck), ([(201, 0)], jQc dC dI (ca 4) dd 3 fd), ([(208, 0)], jQc dC dI (ca 4) co 2 fo)] H_1 locs_1 := ((hh.call hb_11 hb_12 hb_13 hb_14 hS_1 rfl (L1 := [(r0, 16, 41, .ref dd), (r0, 16, 42, .int dc), (r0, 16, 60, .ref co), (r0, 16, 61, .ref cs), (r0, 16, 46, .ref ol), (r0, 16, 47, .ref nw), (r0, 16, 71, .ref td)]) [0, 1, 2, 3, 4, 5, 6] rfl rfl (M1 := [(cs, 207, 2, ca 1, fs)]) [0] rfl rfl (I1 := [(jFs, jDY dC dI ca G0 none sn), (jF9, jVl dC dI G0 9 ck), ([(201, 0)], jQc dC dI (ca 4) dd 3 fd), ([(208, 0)], jQc dC dI (ca 4) co 2 fo)]) [0, 1, 2, 3] rfl rfl).more hb_15)
  clear hh ht_1 hvm_1 hz_1 hk_1 hS_1 hb_11 hb_12 hb_13 hb_14 hb_15
  obtain ⟨hr_2b, hr_2p⟩ := hr_2
  have hr_2' := jb_01 hr_2b
  refine lv_istore_n (lv' := [(3, .int r_2), (0, .ref r0), (1, .int a1), (2, .int a2)]) hx hb dX14_requested_8 rfl hl (by decide) rfl (fun ls hl => ?_)
  refine lv_aload_n hx hb dX14_requested_9 rfl (lv_at hl 1 rfl) ?_
  obtain ⟨v_3, hv_3, hh_4⟩ := hh_1.pin (C := RX14) (T := TX14) (N := 74) hB16 rfl (by decide) hg_r0 (i := 34) (by decide) rfl
  clear hh_1
  obtain ⟨initialized_5, rfl, hzinitialized_5⟩ := hv_3
  have hzinitialized_5' := jb_01 hzinitialized_5
  refine j7_read hx hb hown hK (C := RX14) (T := TX14) (N := 74) rfl hly_16_34 hlk_460 (hh_4.at 0 rfl) dX14_requested_10 ?_
  refine lv_if_ne (tgt := 30) hx hb dX14_requested_13 (by decide) (fun c_6 => ?_) (fun c_6 => ?_)
  · skip
    have c_6' : initialized_5.toInt ≠ 0 := jb_ne (rfl) ((by decide)) c_6
    refine lv_aload_n hx hb dX14_requested_30 rfl (lv_at hl 1 rfl) ?_
    obtain ⟨v_7, hv_7, hh_8⟩ := hh_4.pin (C := RX14) (T := TX14) (N := 74) hB16 rfl (by decide) hg_r0 (i := 35) (by decide) rfl
    clear hh_4
    obtain ⟨shut_9, rfl, hzshut_9⟩ := hv_7
    have hzshut_9' := jb_01 hzshut_9
    refine j7_read hx hb hown hK (C := RX14) (T := TX14) (N := 74) rfl hly_16_35 hlk_463 (hh_8.at 0 rfl) dX14_requested_31 ?_
    refine lv_if_ne (tgt := 48) hx hb dX14_requested_34 (by decide) (fun c_10 => ?_) (fun c_10 => ?_)
    · skip
      have c_10' : shut_9.toInt ≠ 0 := jb_ne (rfl) ((by decide)) c_10
      refine lv_aload_n hx hb dX14_requested_48 rfl (lv_at hl 1 rfl) ?_
      refine lv_sipush (v := (-32600)) hx hb dX14_requested_49 (by decide) ?_
      refine va_callv (A0 := jA base) (H0 := s.heap) (va_runV (As := [.int (-32600)]) (rest := []) ⟨hx, hb, hml, hown, hts⟩ (uX14_error l dC dI ca base B hB hAp hB16 hB101 G0 H_1 r0 (-32600)) (cwV 1 hts (jgV (jWr_53 _ (List.mem_of_getElem? (i := 9) rfl)) (jWr_53 _ (List.mem_of_getElem? (i := 10) rfl)) (jWr_53 _ (List.mem_of_getElem? (i := 11) rfl)) (jWr_1 _ (List.mem_of_getElem? (i := 5) rfl)) (jWr_53 _ (List.mem_of_getElem? (i := 12) rfl))) rfl rfl rfl (by decide +kernel) ⟨by rw [← hR]; exact Nat.le_of_ble_eq_true rfl, by rw [← hR]; exact Nat.le_of_ble_eq_true rfl⟩) ⟨fun a U g mk q => by obtain ⟨q0, q1, q2, qK, q10, q11, q12⟩ := q; exact ⟨q0, q1, q2, jG.calling g mk a qK, q10, q11, q12⟩, hh_8.recv (C := RX14) (T := TX14) (N := 74) hB16 rfl (by decide) hg_r0 hK, fun U hU hW => ⟨rfl, hU, hh_8.2.1, hG.step hW hU hh_8.1, hg_r0, jP.nil, trivial⟩⟩ rfl rfl hl.1 rfl (lv_room (Nat.le_of_ble_eq_true rfl)) dX14_requested_52 ⟨Nat.zero_le _, Nat.zero_le _⟩) hh_8.1 (fun q _ h => h) (fun q h => h) (fun u_11 t_11 H_11 locs_11 ht_11 hvm_11 hr_12 hb_11 hz_11 hk_11 hS_11 => ?_)
      rw [ht_11] at hb_11
      obtain ⟨hb_111, hb_112, hb_113, hb_114, hb_115⟩ := hb_11
      have hh_11 : jSt (dC, dI) B base G0 G0 EX14_requested s.heap 0 0 [(r0, 16, 35, .int shut_9), (r0, 16, 34, .int initialized_5), (r0, 16, 41, .ref dd), (r0, 16, 42, .int dc), (r0, 16, 60, .ref co), (r0, 16, 61, .ref cs), (r0, 16, 46, .ref ol), (r0, 16, 47, .ref nw), (r0, 16, 71, .ref td)] [(cs, 207, 2, ca 1, fs)] [(jFs, jDY dC dI ca G0 none sn), (jF9, jVl dC dI G0 9 ck), ([(201, 0)], jQc dC dI (ca 4) dd 3 fd), ([(208, 0)], jQc dC dI (ca 4) co 2 fo)] H_11 locs_11 := ((hh_8.call hb_111 hb_112 hb_113 hb_114 hS_11 rfl (L1 := [(r0, 16, 35, .int shut_9), (r0, 16, 34, .int initialized_5), (r0, 16, 41, .ref dd), (r0, 16, 42, .int dc), (r0, 16, 60, .ref co), (r0, 16, 61, .ref cs), (r0, 16, 46, .ref ol), (r0, 16, 47, .ref nw), (r0, 16, 71, .ref td)]) [0, 1, 2, 3, 4, 5, 6, 7, 8] rfl rfl (M1 := [(cs, 207, 2, ca 1, fs)]) [0] rfl rfl (I1 := [(jFs, jDY dC dI ca G0 none sn), (jF9, jVl dC dI G0 9 ck), ([(201, 0)], jQc dC dI (ca 4) dd 3 fd), ([(208, 0)], jQc dC dI (ca 4) co 2 fo)]) [0, 1, 2, 3] rfl rfl).more hb_115)
      clear hh_8 ht_11 hvm_11 hz_11 hk_11 hS_11 hb_111 hb_112 hb_113 hb_114 hb_115
      refine lv_goto (tgt := 164) hx hb dX14_requested_55 (by decide) ?_
      rw [hQ]
      exact W.vret hx hb hr (fun t ht hW => ⟨⟨(), rfl, trivial, hh_11.rt (M1 := []) [] rfl ht⟩, by rw [ht]; try exact hh_11.1.1, fun q h9 hq => by rw [ht]; try exact hh_11.1.2.1 q h9 hq⟩) hh_11.1.2.2 dX14_requested_164
    · skip
      have c_10' : shut_9.toInt = 0 := jb_ne_n (rfl) ((by decide)) c_10
      refine lv_aload_n hx hb dX14_requested_37 rfl (lv_at hl 1 rfl) ?_
      refine j7_read hx hb hown hK (C := RX14) (T := TX14) (N := 74) rfl hly_16_34 hlk_460 (hh_8.at 1 rfl) dX14_requested_38 ?_
      refine lv_if_eq (tgt := 58) hx hb dX14_requested_41 (by decide) (fun c_13 => ?_) (fun c_13 => ?_)
      · skip
        have c_13' : initialized_5.toInt = 0 := jb_eq (rfl) ((by decide)) c_13
        exact (by omega : False).elim
      · skip
        have c_13' : initialized_5.toInt ≠ 0 := jb_eq_n (rfl) ((by decide)) c_13
        refine lv_iload_n hx hb dX14_requested_44 rfl (lv_at hl 0 rfl) ?_
        refine lv_if_eq (tgt := 58) hx hb dX14_requested_45 (by decide) (fun c_14 => ?_) (fun c_14 => ?_)
        · skip
          have c_14' : r_2.toInt = 0 := jb_eq (rfl) ((by decide)) c_14
          first | (have hr_2pq := hr_2p.resolve_left (by omega); clear hr_2p) | (have hr_2pq := hr_2p.resolve_right (by omega); clear hr_2p) | skip
          refine lv_iload_n hx hb dX14_requested_58 rfl (lv_at hl 0 rfl) ?_
          refine lv_if_eq (tgt := 85) hx hb dX14_requested_59 (by decide) (fun c_15 => ?_) (fun c_15 => ?_)
          · skip
            have c_15' : r_2.toInt = 0 := jb_eq (rfl) ((by decide)) c_15
            first | (have hr_2pq := hr_2p.resolve_left (by omega); clear hr_2p) | (have hr_2pq := hr_2p.resolve_right (by omega); clear hr_2p) | skip
            refine lv_aload_n hx hb dX14_requested_85 rfl (lv_at hl 1 rfl) ?_
            refine lv_iload_n hx hb dX14_requested_86 rfl (lv_at hl 2 rfl) ?_
            refine j_ldcSw hx hb hown rstr471 dX14_requested_87 ?_
            refine va_calli (A0 := jA base) (H0 := s.heap) (va_runV (As := [.int a1, .ref str471]) (rest := []) ⟨hx, hb, hml, hown, hts⟩ (uX14_isString_ l dC dI ca base B hB hAp hB16 hB117 hB122 hB123 hB127 G0 H_1 r0 a1 str471 8) (cwV 2 hts (jgV (jWr_55 _ (List.mem_of_getElem? (i := 23) rfl)) (jWr_56 _ (List.mem_of_getElem? (i := 0) rfl)) (jWr_56 _ (List.mem_of_getElem? (i := 1) rfl)) (jWr_1 _ (List.mem_of_getElem? (i := 5) rfl)) (jWr_56 _ (List.mem_of_getElem? (i := 2) rfl))) rfl rfl rfl (by decide +kernel) ⟨by rw [← hR]; exact Nat.le_of_ble_eq_true rfl, by rw [← hR]; exact Nat.le_of_ble_eq_true rfl⟩) ⟨fun a U g mk q => by obtain ⟨q0, q1, q2, qK, q10, q11, q12, q13⟩ := q; exact ⟨q0, q1, q2, jG.calling g mk a qK, (q10.moved (Vm.Alike.refl U.vm)), q11, q12, q13⟩, hh_8.recv (C := RX14) (T := TX14) (N := 74) hB16 rfl (by decide) hg_r0 hK, fun U hU hW => ⟨rfl, hU, hh_8.2.1, hG.step hW hU hh_8.1, (hstr471.moved hW.alike).kept hh_8.1.2.1, hg_r0, jP.nil, by first | omega | (refine ⟨?_, ?_⟩ <;> (first | omega | rfl | assumption | decide | exact Or.inl rfl | exact Or.inr rfl | (simp only; omega)))⟩⟩ rfl rfl hl.1 rfl (lv_room (Nat.le_of_ble_eq_true rfl)) dX14_requested_90 ⟨Nat.zero_le _, Nat.zero_le _⟩) hh_8.1 (fun q _ h => h) (fun q h => h) (fun r_17 u_16 t_16 H_16 locs_16 ht_16 hvm_16 hr_17 hb_16 hz_16 hk_16 hS_16 => ?_)
            rw [ht_16] at hb_16
            obtain ⟨hb_161, hb_162, hb_163, hb_164, hb_165⟩ := hb_16
            have hh_16 : jSt (dC, dI) B base G0 G0 EX14_requested s.heap 0 0 [(r0, 16, 35, .int shut_9), (r0, 16, 34, .int initialized_5), (r0, 16, 41, .ref dd), (r0, 16, 42, .int dc), (r0, 16, 60, .ref co), (r0, 16, 61, .ref cs), (r0, 16, 46, .ref ol), (r0, 16, 47, .ref nw), (r0, 16, 71, .ref td)] [(cs, 207, 2, ca 1, fs)] [(jFs, jDY dC dI ca G0 none sn), (jF9, jVl dC dI G0 9 ck), ([(201, 0)], jQc dC dI (ca 4) dd 3 fd), ([(208, 0)], jQc dC dI (ca 4) co 2 fo)] H_16 locs_16 := ((hh_8.call hb_161 hb_162 hb_163 hb_164 hS_16 rfl (L1 := [(r0, 16, 35, .int shut_9), (r0, 16, 34, .int initialized_5), (r0, 16, 41, .ref dd), (r0, 16, 42, .int dc), (r0, 16, 60, .ref co), (r0, 16, 61, .ref cs), (r0, 16, 46, .ref ol), (r0, 16, 47, .ref nw), (r0, 16, 71, .ref td)]) [0, 1, 2, 3, 4, 5, 6, 7, 8] rfl rfl (M1 := [(cs, 207, 2, ca 1, fs)]) [0] rfl rfl (I1 := [(jFs, jDY dC dI ca G0 none sn), (jF9, jVl dC dI G0 9 ck), ([(201, 0)], jQc dC dI (ca 4) dd 3 fd), ([(208, 0)], jQc dC dI (ca 4) co 2 fo)]) [0, 1, 2, 3] rfl rfl).more hb_165)
            clear hh_8 ht_16 hvm_16 hz_16 hk_16 hS_16 hb_161 hb_162 hb_163 hb_164 hb_165
            obtain ⟨hr_17b, hr_17p⟩ := hr_17
            have hr_17' := jb_01 hr_17b
            refine lv_if_eq (tgt := 119) hx hb dX14_requested_93 (by decide) (fun c_18 => ?_) (fun c_18 => ?_)
            · skip
              have c_18' : r_17.toInt = 0 := jb_eq (rfl) ((by decide)) c_18
              first | (have hr_2pq := hr_2p.resolve_left (by omega); clear hr_2p) | (have hr_2pq := hr_2p.resolve_right (by omega); clear hr_2p) | skip
              first | (have hr_17pq := hr_17p.resolve_left (by omega); clear hr_17p) | (have hr_17pq := hr_17p.resolve_right (by omega); clear hr_17p) | try clear hr_17p
              refine lv_aload_n hx hb dX14_requested_119 rfl (lv_at hl 1 rfl) ?_
              refine lv_iload_n hx hb dX14_requested_120 rfl (lv_at hl 2 rfl) ?_
              refine j_ldcSw hx hb hown rstr473 dX14_requested_121 ?_
              refine va_calli (A0 := jA base) (H0 := s.heap) (va_runV (As := [.int a1, .ref str473]) (rest := []) ⟨hx, hb, hml, hown, hts⟩ (uX14_isString_ l dC dI ca base B hB hAp hB16 hB117 hB122 hB123 hB127 G0 H_16 r0 a1 str473 11) (cwV 2 hts (jgV (jWr_55 _ (List.mem_of_getElem? (i := 23) rfl)) (jWr_56 _ (List.mem_of_getElem? (i := 0) rfl)) (jWr_56 _ (List.mem_of_getElem? (i := 1) rfl)) (jWr_1 _ (List.mem_of_getElem? (i := 5) rfl)) (jWr_56 _ (List.mem_of_getElem? (i := 2) rfl))) rfl rfl rfl (by decide +kernel) ⟨by rw [← hR]; exact Nat.le_of_ble_eq_true rfl, by rw [← hR]; exact Nat.le_of_ble_eq_true rfl⟩) ⟨fun a U g mk q => by obtain ⟨q0, q1, q2, qK, q10, q11, q12, q13⟩ := q; exact ⟨q0, q1, q2, jG.calling g mk a qK, (q10.moved (Vm.Alike.refl U.vm)), q11, q12, q13⟩, hh_16.recv (C := RX14) (T := TX14) (N := 74) hB16 rfl (by decide) hg_r0 hK, fun U hU hW => ⟨rfl, hU, hh_16.2.1, hG.step hW hU hh_16.1, (hstr473.moved hW.alike).kept hh_16.1.2.1, hg_r0, jP.nil, by first | omega | (refine ⟨?_, ?_⟩ <;> (first | omega | rfl | assumption | decide | exact Or.inl rfl | exact Or.inr rfl | (simp only; omega)))⟩⟩ rfl rfl hl.1 rfl (lv_room (Nat.le_of_ble_eq_true rfl)) dX14_requested_124 ⟨Nat.zero_le _, Nat.zero_le _⟩) hh_16.1 (fun q _ h => h) (fun q h => h) (fun r_20 u_19 t_19 H_19 locs_19 ht_19 hvm_19 hr_20 hb_19 hz_19 hk_19 hS_19 => ?_)
              rw [ht_19] at hb_19
              obtain ⟨hb_191, hb_192, hb_193, hb_194, hb_195⟩ := hb_19
              have hh_19 : jSt (dC, dI) B base G0 G0 EX14_requested s.heap 0 0 [(r0, 16, 35, .int shut_9), (r0, 16, 34, .int initialized_5), (r0, 16, 41, .ref dd), (r0, 16, 42, .int dc), (r0, 16, 60, .ref co), (r0, 16, 61, .ref cs), (r0, 16, 46, .ref ol), (r0, 16, 47, .ref nw), (r0, 16, 71, .ref td)] [(cs, 207, 2, ca 1, fs)] [(jFs, jDY dC dI ca G0 none sn), (jF9, jVl dC dI G0 9 ck), ([(201, 0)], jQc dC dI (ca 4) dd 3 fd), ([(208, 0)], jQc dC dI (ca 4) co 2 fo)] H_19 locs_19 := ((hh_16.call hb_191 hb_192 hb_193 hb_194 hS_19 rfl (L1 := [(r0, 16, 35, .int shut_9), (r0, 16, 34, .int initialized_5), (r0, 16, 41, .ref dd), (r0, 16, 42, .int dc), (r0, 16, 60, .ref co), (r0, 16, 61, .ref cs), (r0, 16, 46, .ref ol), (r0, 16, 47, .ref nw), (r0, 16, 71, .ref td)]) [0, 1, 2, 3, 4, 5, 6, 7, 8] rfl rfl (M1 := [(cs, 207, 2, ca 1, fs)]) [0] rfl rfl (I1 := [(jFs, jDY dC dI ca G0 none sn), (jF9, jVl dC dI G0 9 ck), ([(201, 0)], jQc dC dI (ca 4) dd 3 fd), ([(208, 0)], jQc dC dI (ca 4) co 2 fo)]) [0, 1, 2, 3] rfl rfl).more hb_195)
              clear hh_16 ht_19 hvm_19 hz_19 hk_19 hS_19 hb_191 hb_192 hb_193 hb_194 hb_195
              obtain ⟨hr_20b, hr_20p⟩ := hr_20
              have hr_20' := jb_01 hr_20b
              refine lv_if_eq (tgt := 138) hx hb dX14_requested_127 (by decide) (fun c_21 => ?_) (fun c_21 => ?_)
              · skip
                have c_21' : r_20.toInt = 0 := jb_eq (rfl) ((by decide)) c_21
                first | (have hr_2pq := hr_2p.resolve_left (by omega); clear hr_2p) | (have hr_2pq := hr_2p.resolve_right (by omega); clear hr_2p) | skip
                first | (have hr_20pq := hr_20p.resolve_left (by omega); clear hr_20p) | (have hr_20pq := hr_20p.resolve_right (by omega); clear hr_20p) | try clear hr_20p
                refine lv_aload_n hx hb dX14_requested_138 rfl (lv_at hl 1 rfl) ?_
                refine lv_iload_n hx hb dX14_requested_139 rfl (lv_at hl 2 rfl) ?_
                refine j_ldcSw hx hb hown rstr478 dX14_requested_140 ?_
                refine va_calli (A0 := jA base) (H0 := s.heap) (va_runV (As := [.int a1, .ref str478]) (rest := []) ⟨hx, hb, hml, hown, hts⟩ (uX14_isString_ l dC dI ca base B hB hAp hB16 hB117 hB122 hB123 hB127 G0 H_19 r0 a1 str478 15) (cwV 2 hts (jgV (jWr_55 _ (List.mem_of_getElem? (i := 23) rfl)) (jWr_56 _ (List.mem_of_getElem? (i := 0) rfl)) (jWr_56 _ (List.mem_of_getElem? (i := 1) rfl)) (jWr_1 _ (List.mem_of_getElem? (i := 5) rfl)) (jWr_56 _ (List.mem_of_getElem? (i := 2) rfl))) rfl rfl rfl (by decide +kernel) ⟨by rw [← hR]; exact Nat.le_of_ble_eq_true rfl, by rw [← hR]; exact Nat.le_of_ble_eq_true rfl⟩) ⟨fun a U g mk q => by obtain ⟨q0, q1, q2, qK, q10, q11, q12, q13⟩ := q; exact ⟨q0, q1, q2, jG.calling g mk a qK, (q10.moved (Vm.Alike.refl U.vm)), q11, q12, q13⟩, hh_19.recv (C := RX14) (T := TX14) (N := 74) hB16 rfl (by decide) hg_r0 hK, fun U hU hW => ⟨rfl, hU, hh_19.2.1, hG.step hW hU hh_19.1, (hstr478.moved hW.alike).kept hh_19.1.2.1, hg_r0, jP.nil, by first | omega | (refine ⟨?_, ?_⟩ <;> (first | omega | rfl | assumption | decide | exact Or.inl rfl | exact Or.inr rfl | (simp only; omega)))⟩⟩ rfl rfl hl.1 rfl (lv_room (Nat.le_of_ble_eq_true rfl)) dX14_requested_143 ⟨Nat.zero_le _, Nat.zero_le _⟩) hh_19.1 (fun q _ h => h) (fun q h => h) (fun r_23 u_22 t_22 H_22 locs_22 ht_22 hvm_22 hr_23 hb_22 hz_22 hk_22 hS_22 => ?_)
                rw [ht_22] at hb_22
                obtain ⟨hb_221, hb_222, hb_223, hb_224, hb_225⟩ := hb_22
                have hh_22 : jSt (dC, dI) B base G0 G0 EX14_requested s.heap 0 0 [(r0, 16, 35, .int shut_9), (r0, 16, 34, .int initialized_5), (r0, 16, 41, .ref dd), (r0, 16, 42, .int dc), (r0, 16, 60, .ref co), (r0, 16, 61, .ref cs), (r0, 16, 46, .ref ol), (r0, 16, 47, .ref nw), (r0, 16, 71, .ref td)] [(cs, 207, 2, ca 1, fs)] [(jFs, jDY dC dI ca G0 none sn), (jF9, jVl dC dI G0 9 ck), ([(201, 0)], jQc dC dI (ca 4) dd 3 fd), ([(208, 0)], jQc dC dI (ca 4) co 2 fo)] H_22 locs_22 := ((hh_19.call hb_221 hb_222 hb_223 hb_224 hS_22 rfl (L1 := [(r0, 16, 35, .int shut_9), (r0, 16, 34, .int initialized_5), (r0, 16, 41, .ref dd), (r0, 16, 42, .int dc), (r0, 16, 60, .ref co), (r0, 16, 61, .ref cs), (r0, 16, 46, .ref ol), (r0, 16, 47, .ref nw), (r0, 16, 71, .ref td)]) [0, 1, 2, 3, 4, 5, 6, 7, 8] rfl rfl (M1 := [(cs, 207, 2, ca 1, fs)]) [0] rfl rfl (I1 := [(jFs, jDY dC dI ca G0 none sn), (jF9, jVl dC dI G0 9 ck), ([(201, 0)], jQc dC dI (ca 4) dd 3 fd), ([(208, 0)], jQc dC dI (ca 4) co 2 fo)]) [0, 1, 2, 3] rfl rfl).more hb_225)
                clear hh_19 ht_22 hvm_22 hz_22 hk_22 hS_22 hb_221 hb_222 hb_223 hb_224 hb_225
                obtain ⟨hr_23b, hr_23p⟩ := hr_23
                have hr_23' := jb_01 hr_23b
                refine lv_if_eq (tgt := 157) hx hb dX14_requested_146 (by decide) (fun c_24 => ?_) (fun c_24 => ?_)
                · skip
                  have c_24' : r_23.toInt = 0 := jb_eq (rfl) ((by decide)) c_24
                  first | (have hr_2pq := hr_2p.resolve_left (by omega); clear hr_2p) | (have hr_2pq := hr_2p.resolve_right (by omega); clear hr_2p) | skip
                  first | (have hr_23pq := hr_23p.resolve_left (by omega); clear hr_23p) | (have hr_23pq := hr_23p.resolve_right (by omega); clear hr_23p) | try clear hr_23p
                  refine lv_aload_n hx hb dX14_requested_157 rfl (lv_at hl 1 rfl) ?_
                  refine lv_sipush (v := (-32601)) hx hb dX14_requested_158 (by decide) ?_
                  refine va_callv (A0 := jA base) (H0 := s.heap) (va_runV (As := [.int (-32601)]) (rest := []) ⟨hx, hb, hml, hown, hts⟩ (uX14_error l dC dI ca base B hB hAp hB16 hB101 G0 H_22 r0 (-32601)) (cwV 1 hts (jgV (jWr_53 _ (List.mem_of_getElem? (i := 9) rfl)) (jWr_53 _ (List.mem_of_getElem? (i := 10) rfl)) (jWr_53 _ (List.mem_of_getElem? (i := 11) rfl)) (jWr_1 _ (List.mem_of_getElem? (i := 5) rfl)) (jWr_53 _ (List.mem_of_getElem? (i := 12) rfl))) rfl rfl rfl (by decide +kernel) ⟨by rw [← hR]; exact Nat.le_of_ble_eq_true rfl, by rw [← hR]; exact Nat.le_of_ble_eq_true rfl⟩) ⟨fun a U g mk q => by obtain ⟨q0, q1, q2, qK, q10, q11, q12⟩ := q; exact ⟨q0, q1, q2, jG.calling g mk a qK, q10, q11, q12⟩, hh_22.recv (C := RX14) (T := TX14) (N := 74) hB16 rfl (by decide) hg_r0 hK, fun U hU hW => ⟨rfl, hU, hh_22.2.1, hG.step hW hU hh_22.1, hg_r0, jP.nil, trivial⟩⟩ rfl rfl hl.1 rfl (lv_room (Nat.le_of_ble_eq_true rfl)) dX14_requested_161 ⟨Nat.zero_le _, Nat.zero_le _⟩) hh_22.1 (fun q _ h => h) (fun q h => h) (fun u_25 t_25 H_25 locs_25 ht_25 hvm_25 hr_26 hb_25 hz_25 hk_25 hS_25 => ?_)
                  rw [ht_25] at hb_25
                  obtain ⟨hb_251, hb_252, hb_253, hb_254, hb_255⟩ := hb_25
                  have hh_25 : jSt (dC, dI) B base G0 G0 EX14_requested s.heap 0 0 [(r0, 16, 35, .int shut_9), (r0, 16, 34, .int initialized_5), (r0, 16, 41, .ref dd), (r0, 16, 42, .int dc), (r0, 16, 60, .ref co), (r0, 16, 61, .ref cs), (r0, 16, 46, .ref ol), (r0, 16, 47, .ref nw), (r0, 16, 71, .ref td)] [(cs, 207, 2, ca 1, fs)] [(jFs, jDY dC dI ca G0 none sn), (jF9, jVl dC dI G0 9 ck), ([(201, 0)], jQc dC dI (ca 4) dd 3 fd), ([(208, 0)], jQc dC dI (ca 4) co 2 fo)] H_25 locs_25 := ((hh_22.call hb_251 hb_252 hb_253 hb_254 hS_25 rfl (L1 := [(r0, 16, 35, .int shut_9), (r0, 16, 34, .int initialized_5), (r0, 16, 41, .ref dd), (r0, 16, 42, .int dc), (r0, 16, 60, .ref co), (r0, 16, 61, .ref cs), (r0, 16, 46, .ref ol), (r0, 16, 47, .ref nw), (r0, 16, 71, .ref td)]) [0, 1, 2, 3, 4, 5, 6, 7, 8] rfl rfl (M1 := [(cs, 207, 2, ca 1, fs)]) [0] rfl rfl (I1 := [(jFs, jDY dC dI ca G0 none sn), (jF9, jVl dC dI G0 9 ck), ([(201, 0)], jQc dC dI (ca 4) dd 3 fd), ([(208, 0)], jQc dC dI (ca 4) co 2 fo)]) [0, 1, 2, 3] rfl rfl).more hb_255)
                  clear hh_22 ht_25 hvm_25 hz_25 hk_25 hS_25 hb_251 hb_252 hb_253 hb_254 hb_255
                  rw [hQ]
                  exact W.vret hx hb hr (fun t ht hW => ⟨⟨(), rfl, trivial, hh_25.rt (M1 := []) [] rfl ht⟩, by rw [ht]; try exact hh_25.1.1, fun q h9 hq => by rw [ht]; try exact hh_25.1.2.1 q h9 hq⟩) hh_25.1.2.2 dX14_requested_164
                · skip
                  have c_24' : r_23.toInt ≠ 0 := jb_eq_n (rfl) ((by decide)) c_24
                  first | (have hr_2pq := hr_2p.resolve_left (by omega); clear hr_2p) | (have hr_2pq := hr_2p.resolve_right (by omega); clear hr_2p) | skip
                  first | (have hr_23pq := hr_23p.resolve_left (by omega); clear hr_23p) | (have hr_23pq := hr_23p.resolve_right (by omega); clear hr_23p) | try clear hr_23p
                  refine lv_aload_n hx hb dX14_requested_149 rfl (lv_at hl 1 rfl) ?_
                  refine lv_iload_n hx hb dX14_requested_150 rfl (lv_at hl 3 rfl) ?_
                  refine va_callv (A0 := jA base) (H0 := s.heap) (va_runV (As := [.int a2]) (rest := []) ⟨hx, hb, hml, hown, hts⟩ (uX14_askStatement l dC dI ca base B hB hAp hB14 hB15 hB16 hB101 hB103 hB117 hB118 hB119 hB120 hB121 hB122 hB123 hB127 hB150 hB151 hB152 hB153 hB154 hB155 hB156 hB157 hB158 hB159 hB160 hB161 hB162 hB163 hB164 hB165 hB166 hB167 hB168 hB169 hB190 hB191 hB192 hB201 hB202 hB203 hB204 hB206 G0 H_22 r0 a2 dd dc co cs ol nw td sn ck fd fo fs) (cwV 1 hts (jgV (jWr_75 _ (List.mem_of_getElem? (i := 14) rfl)) (jWr_75 _ (List.mem_of_getElem? (i := 15) rfl)) (jWr_75 _ (List.mem_of_getElem? (i := 16) rfl)) (jWr_1 _ (List.mem_of_getElem? (i := 5) rfl)) (jWr_75 _ (List.mem_of_getElem? (i := 17) rfl))) rfl rfl rfl (by decide +kernel) ⟨by rw [← hR]; exact Nat.le_of_ble_eq_true rfl, by rw [← hR]; exact Nat.le_of_ble_eq_true rfl⟩) ⟨fun a U g mk q => by obtain ⟨q0, q1, q2, qK, q10, q11, q12, q13, q14, q15, q16, q17, q18, q19, q20, q21⟩ := q; exact ⟨q0, q1, q2, jG.calling g mk a qK, (va_K.moved (Vm.Alike.refl U.vm) q10), q11, q12, q13, q14, q15, q16, q17, q18, q19, q20, q21⟩, hh_22.recv (C := RX14) (T := TX14) (N := 74) hB16 rfl (by decide) hg_r0 hK, fun U hU hW => ⟨rfl, hU, hh_22.2.1, hG.step hW hU hh_22.1, va_K.moved hW.alike hK2, hg_r0, hg_dd, hg_co, hg_cs, hg_ol, hg_nw, hg_td, (hh_22.2.2.1.sub (L1 := [(r0, 16, 41, .ref dd), (r0, 16, 42, .int dc), (r0, 16, 60, .ref co), (r0, 16, 61, .ref cs), (r0, 16, 46, .ref ol), (r0, 16, 47, .ref nw), (r0, 16, 71, .ref td)]) [2, 3, 4, 5, 6, 7, 8] rfl), (hh_22.2.2.2.2.2.2.2.1.sub (L1 := [(cs, 207, 2, ca 1, fs)]) [0] rfl), (hh_22.2.2.2.2.2.2.2.2.sub (L1 := [(jFs, jDY dC dI ca G0 none sn), (jF9, jVl dC dI G0 9 ck), ([(201, 0)], jQc dC dI (ca 4) dd 3 fd), ([(208, 0)], jQc dC dI (ca 4) co 2 fo)]) [0, 1, 2, 3] rfl), by first | omega | (refine ⟨?_, ?_⟩ <;> (first | omega | rfl | assumption | decide | exact Or.inl rfl | exact Or.inr rfl | (simp only; omega)))⟩⟩ rfl rfl hl.1 rfl (lv_room (Nat.le_of_ble_eq_true rfl)) dX14_requested_151 ⟨Nat.zero_le _, Nat.zero_le _⟩) hh_22.1 (fun q _ h => h) (fun q h => h) (fun u_27 t_27 H_27 locs_27 ht_27 hvm_27 hr_28 hb_27 hz_27 hk_27 hS_27 => ?_)
                  rw [ht_27] at hb_27
                  obtain ⟨hb_271, hb_272, hb_273, hb_274, hb_275⟩ := hb_27
                  have hh_27 : jSt (dC, dI) B base G0 G0 EX14_requested s.heap 0 0 [(r0, 16, 35, .int shut_9), (r0, 16, 34, .int initialized_5), (r0, 16, 41, .ref dd), (r0, 16, 42, .int dc), (r0, 16, 60, .ref co), (r0, 16, 61, .ref cs), (r0, 16, 46, .ref ol), (r0, 16, 47, .ref nw), (r0, 16, 71, .ref td)] [(cs, 207, 2, ca 1, fs)] [(jFs, jDY dC dI ca G0 none sn), (jF9, jVl dC dI G0 9 ck), ([(201, 0)], jQc dC dI (ca 4) dd 3 fd), ([(208, 0)], jQc dC dI (ca 4) co 2 fo)] H_27 locs_27 := ((hh_22.call hb_271 hb_272 hb_273 hb_274 hS_27 rfl (L1 := [(r0, 16, 35, .int shut_9), (r0, 16, 34, .int initialized_5), (r0, 16, 41, .ref dd), (r0, 16, 42, .int dc), (r0, 16, 60, .ref co), (r0, 16, 61, .ref cs), (r0, 16, 46, .ref ol), (r0, 16, 47, .ref nw), (r0, 16, 71, .ref td)]) [0, 1, 2, 3, 4, 5, 6, 7, 8] rfl rfl (M1 := [(cs, 207, 2, ca 1, fs)]) [0] rfl rfl (I1 := [(jFs, jDY dC dI ca G0 none sn), (jF9, jVl dC dI G0 9 ck), ([(201, 0)], jQc dC dI (ca 4) dd 3 fd), ([(208, 0)], jQc dC dI (ca 4) co 2 fo)]) [0, 1, 2, 3] rfl rfl).more hb_275)
                  clear hh_22 ht_27 hvm_27 hz_27 hk_27 hS_27 hb_271 hb_272 hb_273 hb_274 hb_275
                  refine lv_goto (tgt := 164) hx hb dX14_requested_154 (by decide) ?_
                  rw [hQ]
                  exact W.vret hx hb hr (fun t ht hW => ⟨⟨(), rfl, trivial, hh_27.rt (M1 := []) [] rfl ht⟩, by rw [ht]; try exact hh_27.1.1, fun q h9 hq => by rw [ht]; try exact hh_27.1.2.1 q h9 hq⟩) hh_27.1.2.2 dX14_requested_164
              · skip
                have c_21' : r_20.toInt ≠ 0 := jb_eq_n (rfl) ((by decide)) c_21
                first | (have hr_2pq := hr_2p.resolve_left (by omega); clear hr_2p) | (have hr_2pq := hr_2p.resolve_right (by omega); clear hr_2p) | skip
                first | (have hr_20pq := hr_20p.resolve_left (by omega); clear hr_20p) | (have hr_20pq := hr_20p.resolve_right (by omega); clear hr_20p) | try clear hr_20p
                refine lv_aload_n hx hb dX14_requested_130 rfl (lv_at hl 1 rfl) ?_
                refine lv_iload_n hx hb dX14_requested_131 rfl (lv_at hl 3 rfl) ?_
                refine va_callv (A0 := jA base) (H0 := s.heap) (va_runV (As := [.int a2]) (rest := []) ⟨hx, hb, hml, hown, hts⟩ (uX14_askGoals l dC dI ca base B hB hAp hB14 hB15 hB16 hB101 hB103 hB117 hB118 hB119 hB120 hB121 hB122 hB123 hB124 hB125 hB127 hB150 hB151 hB152 hB153 hB154 hB155 hB156 hB157 hB158 hB159 hB160 hB161 hB162 hB163 hB164 hB165 hB166 hB167 hB168 hB169 hB190 hB191 hB192 hB201 hB202 hB203 hB206 G0 H_19 r0 a2 dd dc co cs ol nw td sn ck fd fo fs) (cwV 1 hts (jgV (jWr_75 _ (List.mem_of_getElem? (i := 6) rfl)) (jWr_75 _ (List.mem_of_getElem? (i := 7) rfl)) (jWr_75 _ (List.mem_of_getElem? (i := 8) rfl)) (jWr_1 _ (List.mem_of_getElem? (i := 5) rfl)) (jWr_75 _ (List.mem_of_getElem? (i := 9) rfl))) rfl rfl rfl (by decide +kernel) ⟨by rw [← hR]; exact Nat.le_of_ble_eq_true rfl, by rw [← hR]; exact Nat.le_of_ble_eq_true rfl⟩) ⟨fun a U g mk q => by obtain ⟨q0, q1, q2, qK, q10, q11, q12, q13, q14, q15, q16, q17, q18, q19, q20, q21⟩ := q; exact ⟨q0, q1, q2, jG.calling g mk a qK, (va_K.moved (Vm.Alike.refl U.vm) q10), q11, q12, q13, q14, q15, q16, q17, q18, q19, q20, q21⟩, hh_19.recv (C := RX14) (T := TX14) (N := 74) hB16 rfl (by decide) hg_r0 hK, fun U hU hW => ⟨rfl, hU, hh_19.2.1, hG.step hW hU hh_19.1, va_K.moved hW.alike hK2, hg_r0, hg_dd, hg_co, hg_cs, hg_ol, hg_nw, hg_td, (hh_19.2.2.1.sub (L1 := [(r0, 16, 41, .ref dd), (r0, 16, 42, .int dc), (r0, 16, 60, .ref co), (r0, 16, 61, .ref cs), (r0, 16, 46, .ref ol), (r0, 16, 47, .ref nw), (r0, 16, 71, .ref td)]) [2, 3, 4, 5, 6, 7, 8] rfl), (hh_19.2.2.2.2.2.2.2.1.sub (L1 := [(cs, 207, 2, ca 1, fs)]) [0] rfl), (hh_19.2.2.2.2.2.2.2.2.sub (L1 := [(jFs, jDY dC dI ca G0 none sn), (jF9, jVl dC dI G0 9 ck), ([(201, 0)], jQc dC dI (ca 4) dd 3 fd), ([(208, 0)], jQc dC dI (ca 4) co 2 fo)]) [0, 1, 2, 3] rfl), by first | omega | (refine ⟨?_, ?_⟩ <;> (first | omega | rfl | assumption | decide | exact Or.inl rfl | exact Or.inr rfl | (simp only; omega)))⟩⟩ rfl rfl hl.1 rfl (lv_room (Nat.le_of_ble_eq_true rfl)) dX14_requested_132 ⟨Nat.zero_le _, Nat.zero_le _⟩) hh_19.1 (fun q _ h => h) (fun q h => h) (fun u_29 t_29 H_29 locs_29 ht_29 hvm_29 hr_30 hb_29 hz_29 hk_29 hS_29 => ?_)
                rw [ht_29] at hb_29
                obtain ⟨hb_291, hb_292, hb_293, hb_294, hb_295⟩ := hb_29
                have hh_29 : jSt (dC, dI) B base G0 G0 EX14_requested s.heap 0 0 [(r0, 16, 35, .int shut_9), (r0, 16, 34, .int initialized_5), (r0, 16, 41, .ref dd), (r0, 16, 42, .int dc), (r0, 16, 60, .ref co), (r0, 16, 61, .ref cs), (r0, 16, 46, .ref ol), (r0, 16, 47, .ref nw), (r0, 16, 71, .ref td)] [(cs, 207, 2, ca 1, fs)] [(jFs, jDY dC dI ca G0 none sn), (jF9, jVl dC dI G0 9 ck), ([(201, 0)], jQc dC dI (ca 4) dd 3 fd), ([(208, 0)], jQc dC dI (ca 4) co 2 fo)] H_29 locs_29 := ((hh_19.call hb_291 hb_292 hb_293 hb_294 hS_29 rfl (L1 := [(r0, 16, 35, .int shut_9), (r0, 16, 34, .int initialized_5), (r0, 16, 41, .ref dd), (r0, 16, 42, .int dc), (r0, 16, 60, .ref co), (r0, 16, 61, .ref cs), (r0, 16, 46, .ref ol), (r0, 16, 47, .ref nw), (r0, 16, 71, .ref td)]) [0, 1, 2, 3, 4, 5, 6, 7, 8] rfl rfl (M1 := [(cs, 207, 2, ca 1, fs)]) [0] rfl rfl (I1 := [(jFs, jDY dC dI ca G0 none sn), (jF9, jVl dC dI G0 9 ck), ([(201, 0)], jQc dC dI (ca 4) dd 3 fd), ([(208, 0)], jQc dC dI (ca 4) co 2 fo)]) [0, 1, 2, 3] rfl rfl).more hb_295)
                clear hh_19 ht_29 hvm_29 hz_29 hk_29 hS_29 hb_291 hb_292 hb_293 hb_294 hb_295
                refine lv_goto (tgt := 164) hx hb dX14_requested_135 (by decide) ?_
                rw [hQ]
                exact W.vret hx hb hr (fun t ht hW => ⟨⟨(), rfl, trivial, hh_29.rt (M1 := []) [] rfl ht⟩, by rw [ht]; try exact hh_29.1.1, fun q h9 hq => by rw [ht]; try exact hh_29.1.2.1 q h9 hq⟩) hh_29.1.2.2 dX14_requested_164
            · skip
              have c_18' : r_17.toInt ≠ 0 := jb_eq_n (rfl) ((by decide)) c_18
              first | (have hr_2pq := hr_2p.resolve_left (by omega); clear hr_2p) | (have hr_2pq := hr_2p.resolve_right (by omega); clear hr_2p) | skip
              first | (have hr_17pq := hr_17p.resolve_left (by omega); clear hr_17p) | (have hr_17pq := hr_17p.resolve_right (by omega); clear hr_17p) | try clear hr_17p
              refine lv_aload_n hx hb dX14_requested_96 rfl (lv_at hl 1 rfl) ?_
              refine lv_iconst (v := 1) hx hb dX14_requested_97 (by decide) ?_
              refine j7_put hx hb hown hK hh_16 hB hAp hB16 (C := RX14) (T := TX14) (N := 74) rfl (by decide) hg_r0 (i := 35) (by decide) hly_16_35 rfl hlk_463 rfl (ty := .boolean) (v := .int 1) (by decide +kernel) (jb_nz (Or.inr rfl)) (jb_fz (Or.inr rfl)) (⟨_, rfl, (Or.inr rfl)⟩) rfl (L1 := [(r0, 16, 34, .int initialized_5), (r0, 16, 41, .ref dd), (r0, 16, 42, .int dc), (r0, 16, 60, .ref co), (r0, 16, 61, .ref cs), (r0, 16, 46, .ref ol), (r0, 16, 47, .ref nw), (r0, 16, 71, .ref td)]) [1, 2, 3, 4, 5, 6, 7, 8] rfl rfl rfl dX14_requested_98 (fun H_31 locs_31 hh_31 => ?_)
              clear hh_16
              refine lv_aload_n hx hb dX14_requested_101 rfl (lv_at hl 1 rfl) ?_
              refine va_callv (A0 := jA base) (H0 := s.heap) (va_runV (As := []) (rest := []) ⟨hx, hb, hml, hown, hts⟩ (uX14_beginResult l dC dI ca base B hB hAp hB16 hB101 G0 H_31 r0) (cwV 0 hts (jgV (jWr_69 _ (List.mem_of_getElem? (i := 19) rfl)) (jWr_69 _ (List.mem_of_getElem? (i := 20) rfl)) (jWr_69 _ (List.mem_of_getElem? (i := 21) rfl)) (jWr_1 _ (List.mem_of_getElem? (i := 5) rfl)) (jWr_69 _ (List.mem_of_getElem? (i := 22) rfl))) rfl rfl rfl (by decide +kernel) ⟨by rw [← hR]; exact Nat.le_of_ble_eq_true rfl, by rw [← hR]; exact Nat.le_of_ble_eq_true rfl⟩) ⟨fun a U g mk q => by obtain ⟨q0, q1, q2, qK, q10, q11, q12⟩ := q; exact ⟨q0, q1, q2, jG.calling g mk a qK, q10, q11, q12⟩, hh_31.recv (C := RX14) (T := TX14) (N := 74) hB16 rfl (by decide) hg_r0 hK, fun U hU hW => ⟨rfl, hU, hh_31.2.1, hG.step hW hU hh_31.1, hg_r0, jP.nil, trivial⟩⟩ rfl rfl hl.1 rfl (lv_room (Nat.le_of_ble_eq_true rfl)) dX14_requested_102 ⟨Nat.zero_le _, Nat.zero_le _⟩) hh_31.1 (fun q _ h => h) (fun q h => h) (fun u_32 t_32 H_32 locs_32 ht_32 hvm_32 hr_33 hb_32 hz_32 hk_32 hS_32 => ?_)
              rw [ht_32] at hb_32
              obtain ⟨hb_321, hb_322, hb_323, hb_324, hb_325⟩ := hb_32
              have hh_32 : jSt (dC, dI) B base G0 G0 EX14_requested s.heap 0 0 [(r0, 16, 35, .int 1), (r0, 16, 34, .int initialized_5), (r0, 16, 41, .ref dd), (r0, 16, 42, .int dc), (r0, 16, 60, .ref co), (r0, 16, 61, .ref cs), (r0, 16, 46, .ref ol), (r0, 16, 47, .ref nw), (r0, 16, 71, .ref td)] [(cs, 207, 2, ca 1, fs)] [(jFs, jDY dC dI ca G0 none sn), (jF9, jVl dC dI G0 9 ck), ([(201, 0)], jQc dC dI (ca 4) dd 3 fd), ([(208, 0)], jQc dC dI (ca 4) co 2 fo)] H_32 locs_32 := ((hh_31.call hb_321 hb_322 hb_323 hb_324 hS_32 rfl (L1 := [(r0, 16, 35, .int 1), (r0, 16, 34, .int initialized_5), (r0, 16, 41, .ref dd), (r0, 16, 42, .int dc), (r0, 16, 60, .ref co), (r0, 16, 61, .ref cs), (r0, 16, 46, .ref ol), (r0, 16, 47, .ref nw), (r0, 16, 71, .ref td)]) [0, 1, 2, 3, 4, 5, 6, 7, 8] rfl rfl (M1 := [(cs, 207, 2, ca 1, fs)]) [0] rfl rfl (I1 := [(jFs, jDY dC dI ca G0 none sn), (jF9, jVl dC dI G0 9 ck), ([(201, 0)], jQc dC dI (ca 4) dd 3 fd), ([(208, 0)], jQc dC dI (ca 4) co 2 fo)]) [0, 1, 2, 3] rfl rfl).more hb_325)
              clear hh_31 ht_32 hvm_32 hz_32 hk_32 hS_32 hb_321 hb_322 hb_323 hb_324 hb_325
              refine lv_aload_n hx hb dX14_requested_105 rfl (lv_at hl 1 rfl) ?_
              refine j_ldcSw hx hb hown rstr307 dX14_requested_106 ?_
              obtain ⟨v_36, hv_36, hh_37⟩ := hh_32.pin (C := RX14) (T := TX14) (N := 74) hB16 rfl (by decide) hg_r0 (i := 6) (by decide) rfl
              obtain ⟨framed_38, rfl, hloframed_38, hhiframed_38⟩ := hv_36
              refine va_callv (A0 := jA base) (H0 := s.heap) (va_runV (As := [.ref str307]) (rest := []) ⟨hx, hb, hml, hown, hts⟩ (uX14_word l dC dI ca base B hB hAp hB16 hB101 G0 H_32 r0 str307 4 framed_38) (cwV 1 hts (jgV (jWr_53 _ (List.mem_of_getElem? (i := 22) rfl)) (jWr_53 _ (List.mem_of_getElem? (i := 23) rfl)) (jWr_54 _ (List.mem_of_getElem? (i := 0) rfl)) (jWr_1 _ (List.mem_of_getElem? (i := 5) rfl)) (jWr_54 _ (List.mem_of_getElem? (i := 1) rfl))) rfl rfl rfl (by decide +kernel) ⟨by rw [← hR]; exact Nat.le_of_ble_eq_true rfl, by rw [← hR]; exact Nat.le_of_ble_eq_true rfl⟩) ⟨fun a U g mk q => by obtain ⟨q0, q1, q2, qK, q10, q11, q12, q13⟩ := q; exact ⟨q0, q1, q2, jG.calling g mk a qK, (q10.moved (Vm.Alike.refl U.vm)), q11, q12, q13⟩, hh_37.recv (C := RX14) (T := TX14) (N := 74) hB16 rfl (by decide) hg_r0 hK, fun U hU hW => ⟨rfl, hU, hh_37.2.1, hG.step hW hU hh_37.1, (hstr307.moved hW.alike).kept hh_37.1.2.1, hg_r0, (hh_37.2.2.1.sub (L1 := [(r0, 16, 6, .int framed_38)]) [0] rfl), by first | omega | (refine ⟨?_, ?_, ?_⟩ <;> (first | omega | rfl | assumption | decide | exact Or.inl rfl | exact Or.inr rfl | (simp only; omega)))⟩⟩ rfl rfl hl.1 rfl (lv_room (Nat.le_of_ble_eq_true rfl)) dX14_requested_109 ⟨Nat.zero_le _, Nat.zero_le _⟩) hh_37.1 (fun q _ h => h) (fun q h => h) (fun u_34 t_34 H_34 locs_34 ht_34 hvm_34 hr_35 hb_34 hz_34 hk_34 hS_34 => ?_)
              obtain ⟨qf_34, rfl⟩ : ∃ z, z = u_34 := ⟨_, rfl⟩
              rw [ht_34] at hb_34
              obtain ⟨hb_341, hb_342, hb_343, hb_344, hb_345⟩ := hb_34
              have hh_34 : jSt (dC, dI) B base G0 G0 EX14_requested s.heap 0 0 [(r0, 16, 6, .int qf_34), (r0, 16, 35, .int 1), (r0, 16, 34, .int initialized_5), (r0, 16, 41, .ref dd), (r0, 16, 42, .int dc), (r0, 16, 60, .ref co), (r0, 16, 61, .ref cs), (r0, 16, 46, .ref ol), (r0, 16, 47, .ref nw), (r0, 16, 71, .ref td)] [(cs, 207, 2, ca 1, fs)] [(jFs, jDY dC dI ca G0 none sn), (jF9, jVl dC dI G0 9 ck), ([(201, 0)], jQc dC dI (ca 4) dd 3 fd), ([(208, 0)], jQc dC dI (ca 4) co 2 fo)] H_34 locs_34 := ((hh_37.call hb_341 hb_342 hb_343 hb_344 hS_34 rfl (L1 := [(r0, 16, 35, .int 1), (r0, 16, 34, .int initialized_5), (r0, 16, 41, .ref dd), (r0, 16, 42, .int dc), (r0, 16, 60, .ref co), (r0, 16, 61, .ref cs), (r0, 16, 46, .ref ol), (r0, 16, 47, .ref nw), (r0, 16, 71, .ref td)]) [1, 2, 3, 4, 5, 6, 7, 8, 9] rfl rfl (M1 := [(cs, 207, 2, ca 1, fs)]) [0] rfl rfl (I1 := [(jFs, jDY dC dI ca G0 none sn), (jF9, jVl dC dI G0 9 ck), ([(201, 0)], jQc dC dI (ca 4) dd 3 fd), ([(208, 0)], jQc dC dI (ca 4) co 2 fo)]) [0, 1, 2, 3] rfl rfl).more hb_345)
              clear hh_37 ht_34 hvm_34 hz_34 hk_34 hS_34 hb_341 hb_342 hb_343 hb_344 hb_345
              obtain ⟨hr_35_0, hr_35_1⟩ := hr_35
              refine lv_aload_n hx hb dX14_requested_112 rfl (lv_at hl 1 rfl) ?_
              refine va_callv (A0 := jA base) (H0 := s.heap) (va_runV (As := []) (rest := []) ⟨hx, hb, hml, hown, hts⟩ (uX14_endAnswer l dC dI ca base B hB hAp hB16 hB101 G0 H_34 r0) (cwV 0 hts (jgV (jWr_55 _ (List.mem_of_getElem? (i := 6) rfl)) (jWr_55 _ (List.mem_of_getElem? (i := 7) rfl)) (jWr_55 _ (List.mem_of_getElem? (i := 8) rfl)) (jWr_1 _ (List.mem_of_getElem? (i := 5) rfl)) (jWr_55 _ (List.mem_of_getElem? (i := 9) rfl))) rfl rfl rfl (by decide +kernel) ⟨by rw [← hR]; exact Nat.le_of_ble_eq_true rfl, by rw [← hR]; exact Nat.le_of_ble_eq_true rfl⟩) ⟨fun a U g mk q => by obtain ⟨q0, q1, q2, qK, q10, q11, q12⟩ := q; exact ⟨q0, q1, q2, jG.calling g mk a qK, q10, q11, q12⟩, hh_34.recv (C := RX14) (T := TX14) (N := 74) hB16 rfl (by decide) hg_r0 hK, fun U hU hW => ⟨rfl, hU, hh_34.2.1, hG.step hW hU hh_34.1, hg_r0, jP.nil, trivial⟩⟩ rfl rfl hl.1 rfl (lv_room (Nat.le_of_ble_eq_true rfl)) dX14_requested_113 ⟨Nat.zero_le _, Nat.zero_le _⟩) hh_34.1 (fun q _ h => h) (fun q h => h) (fun u_39 t_39 H_39 locs_39 ht_39 hvm_39 hr_40 hb_39 hz_39 hk_39 hS_39 => ?_)
              rw [ht_39] at hb_39
              obtain ⟨hb_391, hb_392, hb_393, hb_394, hb_395⟩ := hb_39
              have hh_39 : jSt (dC, dI) B base G0 G0 EX14_requested s.heap 0 0 [(r0, 16, 35, .int 1), (r0, 16, 34, .int initialized_5), (r0, 16, 41, .ref dd), (r0, 16, 42, .int dc), (r0, 16, 60, .ref co), (r0, 16, 61, .ref cs), (r0, 16, 46, .ref ol), (r0, 16, 47, .ref nw), (r0, 16, 71, .ref td)] [(cs, 207, 2, ca 1, fs)] [(jFs, jDY dC dI ca G0 none sn), (jF9, jVl dC dI G0 9 ck), ([(201, 0)], jQc dC dI (ca 4) dd 3 fd), ([(208, 0)], jQc dC dI (ca 4) co 2 fo)] H_39 locs_39 := ((hh_34.call hb_391 hb_392 hb_393 hb_394 hS_39 rfl (L1 := [(r0, 16, 35, .int 1), (r0, 16, 34, .int initialized_5), (r0, 16, 41, .ref dd), (r0, 16, 42, .int dc), (r0, 16, 60, .ref co), (r0, 16, 61, .ref cs), (r0, 16, 46, .ref ol), (r0, 16, 47, .ref nw), (r0, 16, 71, .ref td)]) [1, 2, 3, 4, 5, 6, 7, 8, 9] rfl rfl (M1 := [(cs, 207, 2, ca 1, fs)]) [0] rfl rfl (I1 := [(jFs, jDY dC dI ca G0 none sn), (jF9, jVl dC dI G0 9 ck), ([(201, 0)], jQc dC dI (ca 4) dd 3 fd), ([(208, 0)], jQc dC dI (ca 4) co 2 fo)]) [0, 1, 2, 3] rfl rfl).more hb_395)
              clear hh_34 ht_39 hvm_39 hz_39 hk_39 hS_39 hb_391 hb_392 hb_393 hb_394 hb_395
              refine lv_goto (tgt := 164) hx hb dX14_requested_116 (by decide) ?_
              rw [hQ]
              exact W.vret hx hb hr (fun t ht hW => ⟨⟨(), rfl, trivial, hh_39.rt (M1 := []) [] rfl ht⟩, by rw [ht]; try exact hh_39.1.1, fun q h9 hq => by rw [ht]; try exact hh_39.1.2.1 q h9 hq⟩) hh_39.1.2.2 dX14_requested_164
          · skip
            have c_15' : r_2.toInt ≠ 0 := jb_eq_n (rfl) ((by decide)) c_15
            exact (by omega : False).elim
        · skip
          have c_14' : r_2.toInt ≠ 0 := jb_eq_n (rfl) ((by decide)) c_14
          first | (have hr_2pq := hr_2p.resolve_left (by omega); clear hr_2p) | (have hr_2pq := hr_2p.resolve_right (by omega); clear hr_2p) | skip
          refine lv_aload_n hx hb dX14_requested_48 rfl (lv_at hl 1 rfl) ?_
          refine lv_sipush (v := (-32600)) hx hb dX14_requested_49 (by decide) ?_
          refine va_callv (A0 := jA base) (H0 := s.heap) (va_runV (As := [.int (-32600)]) (rest := []) ⟨hx, hb, hml, hown, hts⟩ (uX14_error l dC dI ca base B hB hAp hB16 hB101 G0 H_1 r0 (-32600)) (cwV 1 hts (jgV (jWr_53 _ (List.mem_of_getElem? (i := 9) rfl)) (jWr_53 _ (List.mem_of_getElem? (i := 10) rfl)) (jWr_53 _ (List.mem_of_getElem? (i := 11) rfl)) (jWr_1 _ (List.mem_of_getElem? (i := 5) rfl)) (jWr_53 _ (List.mem_of_getElem? (i := 12) rfl))) rfl rfl rfl (by decide +kernel) ⟨by rw [← hR]; exact Nat.le_of_ble_eq_true rfl, by rw [← hR]; exact Nat.le_of_ble_eq_true rfl⟩) ⟨fun a U g mk q => by obtain ⟨q0, q1, q2, qK, q10, q11, q12⟩ := q; exact ⟨q0, q1, q2, jG.calling g mk a qK, q10, q11, q12⟩, hh_8.recv (C := RX14) (T := TX14) (N := 74) hB16 rfl (by decide) hg_r0 hK, fun U hU hW => ⟨rfl, hU, hh_8.2.1, hG.step hW hU hh_8.1, hg_r0, jP.nil, trivial⟩⟩ rfl rfl hl.1 rfl (lv_room (Nat.le_of_ble_eq_true rfl)) dX14_requested_52 ⟨Nat.zero_le _, Nat.zero_le _⟩) hh_8.1 (fun q _ h => h) (fun q h => h) (fun u_41 t_41 H_41 locs_41 ht_41 hvm_41 hr_42 hb_41 hz_41 hk_41 hS_41 => ?_)
          rw [ht_41] at hb_41
          obtain ⟨hb_411, hb_412, hb_413, hb_414, hb_415⟩ := hb_41
          have hh_41 : jSt (dC, dI) B base G0 G0 EX14_requested s.heap 0 0 [(r0, 16, 35, .int shut_9), (r0, 16, 34, .int initialized_5), (r0, 16, 41, .ref dd), (r0, 16, 42, .int dc), (r0, 16, 60, .ref co), (r0, 16, 61, .ref cs), (r0, 16, 46, .ref ol), (r0, 16, 47, .ref nw), (r0, 16, 71, .ref td)] [(cs, 207, 2, ca 1, fs)] [(jFs, jDY dC dI ca G0 none sn), (jF9, jVl dC dI G0 9 ck), ([(201, 0)], jQc dC dI (ca 4) dd 3 fd), ([(208, 0)], jQc dC dI (ca 4) co 2 fo)] H_41 locs_41 := ((hh_8.call hb_411 hb_412 hb_413 hb_414 hS_41 rfl (L1 := [(r0, 16, 35, .int shut_9), (r0, 16, 34, .int initialized_5), (r0, 16, 41, .ref dd), (r0, 16, 42, .int dc), (r0, 16, 60, .ref co), (r0, 16, 61, .ref cs), (r0, 16, 46, .ref ol), (r0, 16, 47, .ref nw), (r0, 16, 71, .ref td)]) [0, 1, 2, 3, 4, 5, 6, 7, 8] rfl rfl (M1 := [(cs, 207, 2, ca 1, fs)]) [0] rfl rfl (I1 := [(jFs, jDY dC dI ca G0 none sn), (jF9, jVl dC dI G0 9 ck), ([(201, 0)], jQc dC dI (ca 4) dd 3 fd), ([(208, 0)], jQc dC dI (ca 4) co 2 fo)]) [0, 1, 2, 3] rfl rfl).more hb_415)
          clear hh_8 ht_41 hvm_41 hz_41 hk_41 hS_41 hb_411 hb_412 hb_413 hb_414 hb_415
          refine lv_goto (tgt := 164) hx hb dX14_requested_55 (by decide) ?_
          rw [hQ]
          exact W.vret hx hb hr (fun t ht hW => ⟨⟨(), rfl, trivial, hh_41.rt (M1 := []) [] rfl ht⟩, by rw [ht]; try exact hh_41.1.1, fun q h9 hq => by rw [ht]; try exact hh_41.1.2.1 q h9 hq⟩) hh_41.1.2.2 dX14_requested_164
  · skip
    have c_6' : initialized_5.toInt = 0 := jb_ne_n (rfl) ((by decide)) c_6
    refine lv_iload_n hx hb dX14_requested_16 rfl (lv_at hl 0 rfl) ?_
    refine lv_if_ne (tgt := 30) hx hb dX14_requested_17 (by decide) (fun c_43 => ?_) (fun c_43 => ?_)
    · skip
      have c_43' : r_2.toInt ≠ 0 := jb_ne (rfl) ((by decide)) c_43
      first | (have hr_2pq := hr_2p.resolve_left (by omega); clear hr_2p) | (have hr_2pq := hr_2p.resolve_right (by omega); clear hr_2p) | skip
      refine lv_aload_n hx hb dX14_requested_30 rfl (lv_at hl 1 rfl) ?_
      obtain ⟨v_44, hv_44, hh_45⟩ := hh_4.pin (C := RX14) (T := TX14) (N := 74) hB16 rfl (by decide) hg_r0 (i := 35) (by decide) rfl
      clear hh_4
      obtain ⟨shut_46, rfl, hzshut_46⟩ := hv_44
      have hzshut_46' := jb_01 hzshut_46
      refine j7_read hx hb hown hK (C := RX14) (T := TX14) (N := 74) rfl hly_16_35 hlk_463 (hh_45.at 0 rfl) dX14_requested_31 ?_
      refine lv_if_ne (tgt := 48) hx hb dX14_requested_34 (by decide) (fun c_47 => ?_) (fun c_47 => ?_)
      · skip
        have c_47' : shut_46.toInt ≠ 0 := jb_ne (rfl) ((by decide)) c_47
        refine lv_aload_n hx hb dX14_requested_48 rfl (lv_at hl 1 rfl) ?_
        refine lv_sipush (v := (-32600)) hx hb dX14_requested_49 (by decide) ?_
        refine va_callv (A0 := jA base) (H0 := s.heap) (va_runV (As := [.int (-32600)]) (rest := []) ⟨hx, hb, hml, hown, hts⟩ (uX14_error l dC dI ca base B hB hAp hB16 hB101 G0 H_1 r0 (-32600)) (cwV 1 hts (jgV (jWr_53 _ (List.mem_of_getElem? (i := 9) rfl)) (jWr_53 _ (List.mem_of_getElem? (i := 10) rfl)) (jWr_53 _ (List.mem_of_getElem? (i := 11) rfl)) (jWr_1 _ (List.mem_of_getElem? (i := 5) rfl)) (jWr_53 _ (List.mem_of_getElem? (i := 12) rfl))) rfl rfl rfl (by decide +kernel) ⟨by rw [← hR]; exact Nat.le_of_ble_eq_true rfl, by rw [← hR]; exact Nat.le_of_ble_eq_true rfl⟩) ⟨fun a U g mk q => by obtain ⟨q0, q1, q2, qK, q10, q11, q12⟩ := q; exact ⟨q0, q1, q2, jG.calling g mk a qK, q10, q11, q12⟩, hh_45.recv (C := RX14) (T := TX14) (N := 74) hB16 rfl (by decide) hg_r0 hK, fun U hU hW => ⟨rfl, hU, hh_45.2.1, hG.step hW hU hh_45.1, hg_r0, jP.nil, trivial⟩⟩ rfl rfl hl.1 rfl (lv_room (Nat.le_of_ble_eq_true rfl)) dX14_requested_52 ⟨Nat.zero_le _, Nat.zero_le _⟩) hh_45.1 (fun q _ h => h) (fun q h => h) (fun u_48 t_48 H_48 locs_48 ht_48 hvm_48 hr_49 hb_48 hz_48 hk_48 hS_48 => ?_)
        rw [ht_48] at hb_48
        obtain ⟨hb_481, hb_482, hb_483, hb_484, hb_485⟩ := hb_48
        have hh_48 : jSt (dC, dI) B base G0 G0 EX14_requested s.heap 0 0 [(r0, 16, 35, .int shut_46), (r0, 16, 34, .int initialized_5), (r0, 16, 41, .ref dd), (r0, 16, 42, .int dc), (r0, 16, 60, .ref co), (r0, 16, 61, .ref cs), (r0, 16, 46, .ref ol), (r0, 16, 47, .ref nw), (r0, 16, 71, .ref td)] [(cs, 207, 2, ca 1, fs)] [(jFs, jDY dC dI ca G0 none sn), (jF9, jVl dC dI G0 9 ck), ([(201, 0)], jQc dC dI (ca 4) dd 3 fd), ([(208, 0)], jQc dC dI (ca 4) co 2 fo)] H_48 locs_48 := ((hh_45.call hb_481 hb_482 hb_483 hb_484 hS_48 rfl (L1 := [(r0, 16, 35, .int shut_46), (r0, 16, 34, .int initialized_5), (r0, 16, 41, .ref dd), (r0, 16, 42, .int dc), (r0, 16, 60, .ref co), (r0, 16, 61, .ref cs), (r0, 16, 46, .ref ol), (r0, 16, 47, .ref nw), (r0, 16, 71, .ref td)]) [0, 1, 2, 3, 4, 5, 6, 7, 8] rfl rfl (M1 := [(cs, 207, 2, ca 1, fs)]) [0] rfl rfl (I1 := [(jFs, jDY dC dI ca G0 none sn), (jF9, jVl dC dI G0 9 ck), ([(201, 0)], jQc dC dI (ca 4) dd 3 fd), ([(208, 0)], jQc dC dI (ca 4) co 2 fo)]) [0, 1, 2, 3] rfl rfl).more hb_485)
        clear hh_45 ht_48 hvm_48 hz_48 hk_48 hS_48 hb_481 hb_482 hb_483 hb_484 hb_485
        refine lv_goto (tgt := 164) hx hb dX14_requested_55 (by decide) ?_
        rw [hQ]
        exact W.vret hx hb hr (fun t ht hW => ⟨⟨(), rfl, trivial, hh_48.rt (M1 := []) [] rfl ht⟩, by rw [ht]; try exact hh_48.1.1, fun q h9 hq => by rw [ht]; try exact hh_48.1.2.1 q h9 hq⟩) hh_48.1.2.2 dX14_requested_164
      · skip
        have c_47' : shut_46.toInt = 0 := jb_ne_n (rfl) ((by decide)) c_47
        refine lv_aload_n hx hb dX14_requested_37 rfl (lv_at hl 1 rfl) ?_
        refine j7_read hx hb hown hK (C := RX14) (T := TX14) (N := 74) rfl hly_16_34 hlk_460 (hh_45.at 1 rfl) dX14_requested_38 ?_
        refine lv_if_eq (tgt := 58) hx hb dX14_requested_41 (by decide) (fun c_50 => ?_) (fun c_50 => ?_)
        · skip
          have c_50' : initialized_5.toInt = 0 := jb_eq (rfl) ((by decide)) c_50
          refine lv_iload_n hx hb dX14_requested_58 rfl (lv_at hl 0 rfl) ?_
          refine lv_if_eq (tgt := 85) hx hb dX14_requested_59 (by decide) (fun c_51 => ?_) (fun c_51 => ?_)
          · skip
            have c_51' : r_2.toInt = 0 := jb_eq (rfl) ((by decide)) c_51
            exact (by omega : False).elim
          · skip
            have c_51' : r_2.toInt ≠ 0 := jb_eq_n (rfl) ((by decide)) c_51
            first | (have hr_2pq := hr_2p.resolve_left (by omega); clear hr_2p) | (have hr_2pq := hr_2p.resolve_right (by omega); clear hr_2p) | skip
            refine lv_aload_n hx hb dX14_requested_62 rfl (lv_at hl 1 rfl) ?_
            refine lv_iconst (v := 1) hx hb dX14_requested_63 (by decide) ?_
            refine j7_put hx hb hown hK hh_45 hB hAp hB16 (C := RX14) (T := TX14) (N := 74) rfl (by decide) hg_r0 (i := 34) (by decide) hly_16_34 rfl hlk_460 rfl (ty := .boolean) (v := .int 1) (by decide +kernel) (jb_nz (Or.inr rfl)) (jb_fz (Or.inr rfl)) (⟨_, rfl, (Or.inr rfl)⟩) rfl (L1 := [(r0, 16, 35, .int shut_46), (r0, 16, 41, .ref dd), (r0, 16, 42, .int dc), (r0, 16, 60, .ref co), (r0, 16, 61, .ref cs), (r0, 16, 46, .ref ol), (r0, 16, 47, .ref nw), (r0, 16, 71, .ref td)]) [0, 2, 3, 4, 5, 6, 7, 8] rfl rfl rfl dX14_requested_64 (fun H_52 locs_52 hh_52 => ?_)
            clear hh_45
            refine lv_aload_n hx hb dX14_requested_67 rfl (lv_at hl 1 rfl) ?_
            refine va_callv (A0 := jA base) (H0 := s.heap) (va_runV (As := []) (rest := []) ⟨hx, hb, hml, hown, hts⟩ (uX14_beginResult l dC dI ca base B hB hAp hB16 hB101 G0 H_52 r0) (cwV 0 hts (jgV (jWr_69 _ (List.mem_of_getElem? (i := 19) rfl)) (jWr_69 _ (List.mem_of_getElem? (i := 20) rfl)) (jWr_69 _ (List.mem_of_getElem? (i := 21) rfl)) (jWr_1 _ (List.mem_of_getElem? (i := 5) rfl)) (jWr_69 _ (List.mem_of_getElem? (i := 22) rfl))) rfl rfl rfl (by decide +kernel) ⟨by rw [← hR]; exact Nat.le_of_ble_eq_true rfl, by rw [← hR]; exact Nat.le_of_ble_eq_true rfl⟩) ⟨fun a U g mk q => by obtain ⟨q0, q1, q2, qK, q10, q11, q12⟩ := q; exact ⟨q0, q1, q2, jG.calling g mk a qK, q10, q11, q12⟩, hh_52.recv (C := RX14) (T := TX14) (N := 74) hB16 rfl (by decide) hg_r0 hK, fun U hU hW => ⟨rfl, hU, hh_52.2.1, hG.step hW hU hh_52.1, hg_r0, jP.nil, trivial⟩⟩ rfl rfl hl.1 rfl (lv_room (Nat.le_of_ble_eq_true rfl)) dX14_requested_68 ⟨Nat.zero_le _, Nat.zero_le _⟩) hh_52.1 (fun q _ h => h) (fun q h => h) (fun u_53 t_53 H_53 locs_53 ht_53 hvm_53 hr_54 hb_53 hz_53 hk_53 hS_53 => ?_)
            rw [ht_53] at hb_53
            obtain ⟨hb_531, hb_532, hb_533, hb_534, hb_535⟩ := hb_53
            have hh_53 : jSt (dC, dI) B base G0 G0 EX14_requested s.heap 0 0 [(r0, 16, 34, .int 1), (r0, 16, 35, .int shut_46), (r0, 16, 41, .ref dd), (r0, 16, 42, .int dc), (r0, 16, 60, .ref co), (r0, 16, 61, .ref cs), (r0, 16, 46, .ref ol), (r0, 16, 47, .ref nw), (r0, 16, 71, .ref td)] [(cs, 207, 2, ca 1, fs)] [(jFs, jDY dC dI ca G0 none sn), (jF9, jVl dC dI G0 9 ck), ([(201, 0)], jQc dC dI (ca 4) dd 3 fd), ([(208, 0)], jQc dC dI (ca 4) co 2 fo)] H_53 locs_53 := ((hh_52.call hb_531 hb_532 hb_533 hb_534 hS_53 rfl (L1 := [(r0, 16, 34, .int 1), (r0, 16, 35, .int shut_46), (r0, 16, 41, .ref dd), (r0, 16, 42, .int dc), (r0, 16, 60, .ref co), (r0, 16, 61, .ref cs), (r0, 16, 46, .ref ol), (r0, 16, 47, .ref nw), (r0, 16, 71, .ref td)]) [0, 1, 2, 3, 4, 5, 6, 7, 8] rfl rfl (M1 := [(cs, 207, 2, ca 1, fs)]) [0] rfl rfl (I1 := [(jFs, jDY dC dI ca G0 none sn), (jF9, jVl dC dI G0 9 ck), ([(201, 0)], jQc dC dI (ca 4) dd 3 fd), ([(208, 0)], jQc dC dI (ca 4) co 2 fo)]) [0, 1, 2, 3] rfl rfl).more hb_535)
            clear hh_52 ht_53 hvm_53 hz_53 hk_53 hS_53 hb_531 hb_532 hb_533 hb_534 hb_535
            refine lv_aload_n hx hb dX14_requested_71 rfl (lv_at hl 1 rfl) ?_
            refine j_ldcSw hx hb hown rstr469 dX14_requested_72 ?_
            obtain ⟨v_57, hv_57, hh_58⟩ := hh_53.pin (C := RX14) (T := TX14) (N := 74) hB16 rfl (by decide) hg_r0 (i := 6) (by decide) rfl
            obtain ⟨framed_59, rfl, hloframed_59, hhiframed_59⟩ := hv_57
            refine va_callv (A0 := jA base) (H0 := s.heap) (va_runV (As := [.ref str469]) (rest := []) ⟨hx, hb, hml, hown, hts⟩ (uX14_word l dC dI ca base B hB hAp hB16 hB101 G0 H_53 r0 str469 39 framed_59) (cwV 1 hts (jgV (jWr_53 _ (List.mem_of_getElem? (i := 22) rfl)) (jWr_53 _ (List.mem_of_getElem? (i := 23) rfl)) (jWr_54 _ (List.mem_of_getElem? (i := 0) rfl)) (jWr_1 _ (List.mem_of_getElem? (i := 5) rfl)) (jWr_54 _ (List.mem_of_getElem? (i := 1) rfl))) rfl rfl rfl (by decide +kernel) ⟨by rw [← hR]; exact Nat.le_of_ble_eq_true rfl, by rw [← hR]; exact Nat.le_of_ble_eq_true rfl⟩) ⟨fun a U g mk q => by obtain ⟨q0, q1, q2, qK, q10, q11, q12, q13⟩ := q; exact ⟨q0, q1, q2, jG.calling g mk a qK, (q10.moved (Vm.Alike.refl U.vm)), q11, q12, q13⟩, hh_58.recv (C := RX14) (T := TX14) (N := 74) hB16 rfl (by decide) hg_r0 hK, fun U hU hW => ⟨rfl, hU, hh_58.2.1, hG.step hW hU hh_58.1, (hstr469.moved hW.alike).kept hh_58.1.2.1, hg_r0, (hh_58.2.2.1.sub (L1 := [(r0, 16, 6, .int framed_59)]) [0] rfl), by first | omega | (refine ⟨?_, ?_, ?_⟩ <;> (first | omega | rfl | assumption | decide | exact Or.inl rfl | exact Or.inr rfl | (simp only; omega)))⟩⟩ rfl rfl hl.1 rfl (lv_room (Nat.le_of_ble_eq_true rfl)) dX14_requested_75 ⟨Nat.zero_le _, Nat.zero_le _⟩) hh_58.1 (fun q _ h => h) (fun q h => h) (fun u_55 t_55 H_55 locs_55 ht_55 hvm_55 hr_56 hb_55 hz_55 hk_55 hS_55 => ?_)
            obtain ⟨qf_55, rfl⟩ : ∃ z, z = u_55 := ⟨_, rfl⟩
            rw [ht_55] at hb_55
            obtain ⟨hb_551, hb_552, hb_553, hb_554, hb_555⟩ := hb_55
            have hh_55 : jSt (dC, dI) B base G0 G0 EX14_requested s.heap 0 0 [(r0, 16, 6, .int qf_55), (r0, 16, 34, .int 1), (r0, 16, 35, .int shut_46), (r0, 16, 41, .ref dd), (r0, 16, 42, .int dc), (r0, 16, 60, .ref co), (r0, 16, 61, .ref cs), (r0, 16, 46, .ref ol), (r0, 16, 47, .ref nw), (r0, 16, 71, .ref td)] [(cs, 207, 2, ca 1, fs)] [(jFs, jDY dC dI ca G0 none sn), (jF9, jVl dC dI G0 9 ck), ([(201, 0)], jQc dC dI (ca 4) dd 3 fd), ([(208, 0)], jQc dC dI (ca 4) co 2 fo)] H_55 locs_55 := ((hh_58.call hb_551 hb_552 hb_553 hb_554 hS_55 rfl (L1 := [(r0, 16, 34, .int 1), (r0, 16, 35, .int shut_46), (r0, 16, 41, .ref dd), (r0, 16, 42, .int dc), (r0, 16, 60, .ref co), (r0, 16, 61, .ref cs), (r0, 16, 46, .ref ol), (r0, 16, 47, .ref nw), (r0, 16, 71, .ref td)]) [1, 2, 3, 4, 5, 6, 7, 8, 9] rfl rfl (M1 := [(cs, 207, 2, ca 1, fs)]) [0] rfl rfl (I1 := [(jFs, jDY dC dI ca G0 none sn), (jF9, jVl dC dI G0 9 ck), ([(201, 0)], jQc dC dI (ca 4) dd 3 fd), ([(208, 0)], jQc dC dI (ca 4) co 2 fo)]) [0, 1, 2, 3] rfl rfl).more hb_555)
            clear hh_58 ht_55 hvm_55 hz_55 hk_55 hS_55 hb_551 hb_552 hb_553 hb_554 hb_555
            obtain ⟨hr_56_0, hr_56_1⟩ := hr_56
            refine lv_aload_n hx hb dX14_requested_78 rfl (lv_at hl 1 rfl) ?_
            refine va_callv (A0 := jA base) (H0 := s.heap) (va_runV (As := []) (rest := []) ⟨hx, hb, hml, hown, hts⟩ (uX14_endAnswer l dC dI ca base B hB hAp hB16 hB101 G0 H_55 r0) (cwV 0 hts (jgV (jWr_55 _ (List.mem_of_getElem? (i := 6) rfl)) (jWr_55 _ (List.mem_of_getElem? (i := 7) rfl)) (jWr_55 _ (List.mem_of_getElem? (i := 8) rfl)) (jWr_1 _ (List.mem_of_getElem? (i := 5) rfl)) (jWr_55 _ (List.mem_of_getElem? (i := 9) rfl))) rfl rfl rfl (by decide +kernel) ⟨by rw [← hR]; exact Nat.le_of_ble_eq_true rfl, by rw [← hR]; exact Nat.le_of_ble_eq_true rfl⟩) ⟨fun a U g mk q => by obtain ⟨q0, q1, q2, qK, q10, q11, q12⟩ := q; exact ⟨q0, q1, q2, jG.calling g mk a qK, q10, q11, q12⟩, hh_55.recv (C := RX14) (T := TX14) (N := 74) hB16 rfl (by decide) hg_r0 hK, fun U hU hW => ⟨rfl, hU, hh_55.2.1, hG.step hW hU hh_55.1, hg_r0, jP.nil, trivial⟩⟩ rfl rfl hl.1 rfl (lv_room (Nat.le_of_ble_eq_true rfl)) dX14_requested_79 ⟨Nat.zero_le _, Nat.zero_le _⟩) hh_55.1 (fun q _ h => h) (fun q h => h) (fun u_60 t_60 H_60 locs_60 ht_60 hvm_60 hr_61 hb_60 hz_60 hk_60 hS_60 => ?_)
            rw [ht_60] at hb_60
            obtain ⟨hb_601, hb_602, hb_603, hb_604, hb_605⟩ := hb_60
            have hh_60 : jSt (dC, dI) B base G0 G0 EX14_requested s.heap 0 0 [(r0, 16, 34, .int 1), (r0, 16, 35, .int shut_46), (r0, 16, 41, .ref dd), (r0, 16, 42, .int dc), (r0, 16, 60, .ref co), (r0, 16, 61, .ref cs), (r0, 16, 46, .ref ol), (r0, 16, 47, .ref nw), (r0, 16, 71, .ref td)] [(cs, 207, 2, ca 1, fs)] [(jFs, jDY dC dI ca G0 none sn), (jF9, jVl dC dI G0 9 ck), ([(201, 0)], jQc dC dI (ca 4) dd 3 fd), ([(208, 0)], jQc dC dI (ca 4) co 2 fo)] H_60 locs_60 := ((hh_55.call hb_601 hb_602 hb_603 hb_604 hS_60 rfl (L1 := [(r0, 16, 34, .int 1), (r0, 16, 35, .int shut_46), (r0, 16, 41, .ref dd), (r0, 16, 42, .int dc), (r0, 16, 60, .ref co), (r0, 16, 61, .ref cs), (r0, 16, 46, .ref ol), (r0, 16, 47, .ref nw), (r0, 16, 71, .ref td)]) [1, 2, 3, 4, 5, 6, 7, 8, 9] rfl rfl (M1 := [(cs, 207, 2, ca 1, fs)]) [0] rfl rfl (I1 := [(jFs, jDY dC dI ca G0 none sn), (jF9, jVl dC dI G0 9 ck), ([(201, 0)], jQc dC dI (ca 4) dd 3 fd), ([(208, 0)], jQc dC dI (ca 4) co 2 fo)]) [0, 1, 2, 3] rfl rfl).more hb_605)
            clear hh_55 ht_60 hvm_60 hz_60 hk_60 hS_60 hb_601 hb_602 hb_603 hb_604 hb_605
            refine lv_goto (tgt := 164) hx hb dX14_requested_82 (by decide) ?_
            rw [hQ]
            exact W.vret hx hb hr (fun t ht hW => ⟨⟨(), rfl, trivial, hh_60.rt (M1 := []) [] rfl ht⟩, by rw [ht]; try exact hh_60.1.1, fun q h9 hq => by rw [ht]; try exact hh_60.1.2.1 q h9 hq⟩) hh_60.1.2.2 dX14_requested_164
        · skip
          have c_50' : initialized_5.toInt ≠ 0 := jb_eq_n (rfl) ((by decide)) c_50
          exact (by omega : False).elim
    · skip
      have c_43' : r_2.toInt = 0 := jb_ne_n (rfl) ((by decide)) c_43
      first | (have hr_2pq := hr_2p.resolve_left (by omega); clear hr_2p) | (have hr_2pq := hr_2p.resolve_right (by omega); clear hr_2p) | skip
      refine lv_aload_n hx hb dX14_requested_20 rfl (lv_at hl 1 rfl) ?_
      refine lv_sipush (v := (-32002)) hx hb dX14_requested_21 (by decide) ?_
      refine va_callv (A0 := jA base) (H0 := s.heap) (va_runV (As := [.int (-32002)]) (rest := []) ⟨hx, hb, hml, hown, hts⟩ (uX14_error l dC dI ca base B hB hAp hB16 hB101 G0 H_1 r0 (-32002)) (cwV 1 hts (jgV (jWr_53 _ (List.mem_of_getElem? (i := 9) rfl)) (jWr_53 _ (List.mem_of_getElem? (i := 10) rfl)) (jWr_53 _ (List.mem_of_getElem? (i := 11) rfl)) (jWr_1 _ (List.mem_of_getElem? (i := 5) rfl)) (jWr_53 _ (List.mem_of_getElem? (i := 12) rfl))) rfl rfl rfl (by decide +kernel) ⟨by rw [← hR]; exact Nat.le_of_ble_eq_true rfl, by rw [← hR]; exact Nat.le_of_ble_eq_true rfl⟩) ⟨fun a U g mk q => by obtain ⟨q0, q1, q2, qK, q10, q11, q12⟩ := q; exact ⟨q0, q1, q2, jG.calling g mk a qK, q10, q11, q12⟩, hh_4.recv (C := RX14) (T := TX14) (N := 74) hB16 rfl (by decide) hg_r0 hK, fun U hU hW => ⟨rfl, hU, hh_4.2.1, hG.step hW hU hh_4.1, hg_r0, jP.nil, trivial⟩⟩ rfl rfl hl.1 rfl (lv_room (Nat.le_of_ble_eq_true rfl)) dX14_requested_24 ⟨Nat.zero_le _, Nat.zero_le _⟩) hh_4.1 (fun q _ h => h) (fun q h => h) (fun u_62 t_62 H_62 locs_62 ht_62 hvm_62 hr_63 hb_62 hz_62 hk_62 hS_62 => ?_)
      rw [ht_62] at hb_62
      obtain ⟨hb_621, hb_622, hb_623, hb_624, hb_625⟩ := hb_62
      have hh_62 : jSt (dC, dI) B base G0 G0 EX14_requested s.heap 0 0 [(r0, 16, 34, .int initialized_5), (r0, 16, 41, .ref dd), (r0, 16, 42, .int dc), (r0, 16, 60, .ref co), (r0, 16, 61, .ref cs), (r0, 16, 46, .ref ol), (r0, 16, 47, .ref nw), (r0, 16, 71, .ref td)] [(cs, 207, 2, ca 1, fs)] [(jFs, jDY dC dI ca G0 none sn), (jF9, jVl dC dI G0 9 ck), ([(201, 0)], jQc dC dI (ca 4) dd 3 fd), ([(208, 0)], jQc dC dI (ca 4) co 2 fo)] H_62 locs_62 := ((hh_4.call hb_621 hb_622 hb_623 hb_624 hS_62 rfl (L1 := [(r0, 16, 34, .int initialized_5), (r0, 16, 41, .ref dd), (r0, 16, 42, .int dc), (r0, 16, 60, .ref co), (r0, 16, 61, .ref cs), (r0, 16, 46, .ref ol), (r0, 16, 47, .ref nw), (r0, 16, 71, .ref td)]) [0, 1, 2, 3, 4, 5, 6, 7] rfl rfl (M1 := [(cs, 207, 2, ca 1, fs)]) [0] rfl rfl (I1 := [(jFs, jDY dC dI ca G0 none sn), (jF9, jVl dC dI G0 9 ck), ([(201, 0)], jQc dC dI (ca 4) dd 3 fd), ([(208, 0)], jQc dC dI (ca 4) co 2 fo)]) [0, 1, 2, 3] rfl rfl).more hb_625)
      clear hh_4 ht_62 hvm_62 hz_62 hk_62 hS_62 hb_621 hb_622 hb_623 hb_624 hb_625
      refine lv_goto (tgt := 164) hx hb dX14_requested_27 (by decide) ?_
      rw [hQ]
      exact W.vret hx hb hr (fun t ht hW => ⟨⟨(), rfl, trivial, hh_62.rt (M1 := []) [] rfl ht⟩, by rw [ht]; try exact hh_62.1.1, fun q h9 hq => by rw [ht]; try exact hh_62.1.2.1 q h9 hq⟩) hh_62.1.2.2 dX14_requested_164
