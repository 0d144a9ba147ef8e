section
theorem dX14_requested_0 : decode cX14_requested 0 = .ok (.aload_n 0, 1) := by decide +kernel
theorem dX14_requested_1 : decode cX14_requested 1 = .ok (.iload_n 1, 1) := by decide +kernel
theorem dX14_requested_2 : decode cX14_requested 2 = .ok (.ldc_w 458, 3) := by decide +kernel
theorem dX14_requested_5 : decode cX14_requested 5 = .ok (.invokevirtual 442, 3) := by decide +kernel
theorem dX14_requested_8 : decode cX14_requested 8 = .ok (.istore_n 3, 1) := by decide +kernel
theorem dX14_requested_9 : decode cX14_requested 9 = .ok (.aload_n 0, 1) := by decide +kernel
theorem dX14_requested_10 : decode cX14_requested 10 = .ok (.getfield 460, 3) := by decide +kernel
theorem dX14_requested_13 : decode cX14_requested 13 = .ok (.ifCond .ne 17, 3) := by decide +kernel
theorem dX14_requested_16 : decode cX14_requested 16 = .ok (.iload_n 3, 1) := by decide +kernel
theorem dX14_requested_17 : decode cX14_requested 17 = .ok (.ifCond .ne 13, 3) := by decide +kernel
theorem dX14_requested_20 : decode cX14_requested 20 = .ok (.aload_n 0, 1) := by decide +kernel
theorem dX14_requested_21 : decode cX14_requested 21 = .ok (.sipush (-32002), 3) := by decide +kernel
theorem dX14_requested_24 : decode cX14_requested 24 = .ok (.invokevirtual 425, 3) := by decide +kernel
theorem dX14_requested_27 : decode cX14_requested 27 = .ok (.goto 137, 3) := by decide +kernel
theorem dX14_requested_30 : decode cX14_requested 30 = .ok (.aload_n 0, 1) := by decide +kernel
theorem dX14_requested_31 : decode cX14_requested 31 = .ok (.getfield 463, 3) := by decide +kernel
theorem dX14_requested_34 : decode cX14_requested 34 = .ok (.ifCond .ne 14, 3) := by decide +kernel
theorem dX14_requested_37 : decode cX14_requested 37 = .ok (.aload_n 0, 1) := by decide +kernel
theorem dX14_requested_38 : decode cX14_requested 38 = .ok (.getfield 460, 3) := by decide +kernel
theorem dX14_requested_41 : decode cX14_requested 41 = .ok (.ifCond .eq 17, 3) := by decide +kernel
theorem dX14_requested_44 : decode cX14_requested 44 = .ok (.iload_n 3, 1) := by decide +kernel
theorem dX14_requested_45 : decode cX14_requested 45 = .ok (.ifCond .eq 13, 3) := by decide +kernel
theorem dX14_requested_48 : decode cX14_requested 48 = .ok (.aload_n 0, 1) := by decide +kernel
theorem dX14_requested_49 : decode cX14_requested 49 = .ok (.sipush (-32600), 3) := by decide +kernel
theorem dX14_requested_52 : decode cX14_requested 52 = .ok (.invokevirtual 425, 3) := by decide +kernel
theorem dX14_requested_55 : decode cX14_requested 55 = .ok (.goto 109, 3) := by decide +kernel
theorem dX14_requested_58 : decode cX14_requested 58 = .ok (.iload_n 3, 1) := by decide +kernel
theorem dX14_requested_59 : decode cX14_requested 59 = .ok (.ifCond .eq 26, 3) := by decide +kernel
theorem dX14_requested_62 : decode cX14_requested 62 = .ok (.aload_n 0, 1) := by decide +kernel
theorem dX14_requested_63 : decode cX14_requested 63 = .ok (.iconst 1, 1) := by decide +kernel
theorem dX14_requested_64 : decode cX14_requested 64 = .ok (.putfield 460, 3) := by decide +kernel
theorem dX14_requested_67 : decode cX14_requested 67 = .ok (.aload_n 0, 1) := by decide +kernel
theorem dX14_requested_68 : decode cX14_requested 68 = .ok (.invokevirtual 466, 3) := by decide +kernel
theorem dX14_requested_71 : decode cX14_requested 71 = .ok (.aload_n 0, 1) := by decide +kernel
theorem dX14_requested_72 : decode cX14_requested 72 = .ok (.ldc_w 469, 3) := by decide +kernel
theorem dX14_requested_75 : decode cX14_requested 75 = .ok (.invokevirtual 189, 3) := by decide +kernel
theorem dX14_requested_78 : decode cX14_requested 78 = .ok (.aload_n 0, 1) := by decide +kernel
theorem dX14_requested_79 : decode cX14_requested 79 = .ok (.invokevirtual 422, 3) := by decide +kernel
theorem dX14_requested_82 : decode cX14_requested 82 = .ok (.goto 82, 3) := by decide +kernel
theorem dX14_requested_85 : decode cX14_requested 85 = .ok (.aload_n 0, 1) := by decide +kernel
theorem dX14_requested_86 : decode cX14_requested 86 = .ok (.iload_n 1, 1) := by decide +kernel
theorem dX14_requested_87 : decode cX14_requested 87 = .ok (.ldc_w 471, 3) := by decide +kernel
theorem dX14_requested_90 : decode cX14_requested 90 = .ok (.invokevirtual 442, 3) := by decide +kernel
theorem dX14_requested_93 : decode cX14_requested 93 = .ok (.ifCond .eq 26, 3) := by decide +kernel
theorem dX14_requested_96 : decode cX14_requested 96 = .ok (.aload_n 0, 1) := by decide +kernel
theorem dX14_requested_97 : decode cX14_requested 97 = .ok (.iconst 1, 1) := by decide +kernel
theorem dX14_requested_98 : decode cX14_requested 98 = .ok (.putfield 463, 3) := by decide +kernel
theorem dX14_requested_101 : decode cX14_requested 101 = .ok (.aload_n 0, 1) := by decide +kernel
theorem dX14_requested_102 : decode cX14_requested 102 = .ok (.invokevirtual 466, 3) := by decide +kernel
theorem dX14_requested_105 : decode cX14_requested 105 = .ok (.aload_n 0, 1) := by decide +kernel
theorem dX14_requested_106 : decode cX14_requested 106 = .ok (.ldc_w 307, 3) := by decide +kernel
theorem dX14_requested_109 : decode cX14_requested 109 = .ok (.invokevirtual 189, 3) := by decide +kernel
theorem dX14_requested_112 : decode cX14_requested 112 = .ok (.aload_n 0, 1) := by decide +kernel
theorem dX14_requested_113 : decode cX14_requested 113 = .ok (.invokevirtual 422, 3) := by decide +kernel
theorem dX14_requested_116 : decode cX14_requested 116 = .ok (.goto 48, 3) := by decide +kernel
theorem dX14_requested_119 : decode cX14_requested 119 = .ok (.aload_n 0, 1) := by decide +kernel
theorem dX14_requested_120 : decode cX14_requested 120 = .ok (.iload_n 1, 1) := by decide +kernel
theorem dX14_requested_121 : decode cX14_requested 121 = .ok (.ldc_w 473, 3) := by decide +kernel
theorem dX14_requested_124 : decode cX14_requested 124 = .ok (.invokevirtual 442, 3) := by decide +kernel
theorem dX14_requested_127 : decode cX14_requested 127 = .ok (.ifCond .eq 11, 3) := by decide +kernel
theorem dX14_requested_130 : decode cX14_requested 130 = .ok (.aload_n 0, 1) := by decide +kernel
theorem dX14_requested_131 : decode cX14_requested 131 = .ok (.iload_n 2, 1) := by decide +kernel
theorem dX14_requested_132 : decode cX14_requested 132 = .ok (.invokevirtual 475, 3) := by decide +kernel
theorem dX14_requested_135 : decode cX14_requested 135 = .ok (.goto 29, 3) := by decide +kernel
theorem dX14_requested_138 : decode cX14_requested 138 = .ok (.aload_n 0, 1) := by decide +kernel
theorem dX14_requested_139 : decode cX14_requested 139 = .ok (.iload_n 1, 1) := by decide +kernel
theorem dX14_requested_140 : decode cX14_requested 140 = .ok (.ldc_w 478, 3) := by decide +kernel
theorem dX14_requested_143 : decode cX14_requested 143 = .ok (.invokevirtual 442, 3) := by decide +kernel
theorem dX14_requested_146 : decode cX14_requested 146 = .ok (.ifCond .eq 11, 3) := by decide +kernel
theorem dX14_requested_149 : decode cX14_requested 149 = .ok (.aload_n 0, 1) := by decide +kernel
theorem dX14_requested_150 : decode cX14_requested 150 = .ok (.iload_n 2, 1) := by decide +kernel
theorem dX14_requested_151 : decode cX14_requested 151 = .ok (.invokevirtual 480, 3) := by decide +kernel
theorem dX14_requested_154 : decode cX14_requested 154 = .ok (.goto 10, 3) := by decide +kernel
theorem dX14_requested_157 : decode cX14_requested 157 = .ok (.aload_n 0, 1) := by decide +kernel
theorem dX14_requested_158 : decode cX14_requested 158 = .ok (.sipush (-32601), 3) := by decide +kernel
theorem dX14_requested_161 : decode cX14_requested 161 = .ok (.invokevirtual 425, 3) := by decide +kernel
theorem dX14_requested_164 : decode cX14_requested 164 = .ok (.return_, 1) := by decide +kernel
theorem dX14_askStatement_0 : decode cX14_askStatement 0 = .ok (.aload_n 0, 1) := by decide +kernel
theorem dX14_askStatement_1 : decode cX14_askStatement 1 = .ok (.aload_n 0, 1) := by decide +kernel
theorem dX14_askStatement_2 : decode cX14_askStatement 2 = .ok (.aload_n 0, 1) := by decide +kernel
theorem dX14_askStatement_3 : decode cX14_askStatement 3 = .ok (.iload_n 1, 1) := by decide +kernel
theorem dX14_askStatement_4 : decode cX14_askStatement 4 = .ok (.ldc_w 514, 3) := by decide +kernel
theorem dX14_askStatement_7 : decode cX14_askStatement 7 = .ok (.invokevirtual 430, 3) := by decide +kernel
theorem dX14_askStatement_10 : decode cX14_askStatement 10 = .ok (.ldc_w 516, 3) := by decide +kernel
theorem dX14_askStatement_13 : decode cX14_askStatement 13 = .ok (.invokevirtual 430, 3) := by decide +kernel
theorem dX14_askStatement_16 : decode cX14_askStatement 16 = .ok (.invokevirtual 520, 3) := by decide +kernel
theorem dX14_askStatement_19 : decode cX14_askStatement 19 = .ok (.astore_n 2, 1) := by decide +kernel
theorem dX14_askStatement_20 : decode cX14_askStatement 20 = .ok (.aload_n 0, 1) := by decide +kernel
theorem dX14_askStatement_21 : decode cX14_askStatement 21 = .ok (.iload_n 1, 1) := by decide +kernel
theorem dX14_askStatement_22 : decode cX14_askStatement 22 = .ok (.ldc_w 707, 3) := by decide +kernel
theorem dX14_askStatement_25 : decode cX14_askStatement 25 = .ok (.invokevirtual 430, 3) := by decide +kernel
theorem dX14_askStatement_28 : decode cX14_askStatement 28 = .ok (.istore_n 3, 1) := by decide +kernel
theorem dX14_askStatement_29 : decode cX14_askStatement 29 = .ok (.aload_n 2, 1) := by decide +kernel
theorem dX14_askStatement_30 : decode cX14_askStatement 30 = .ok (.ifnull 11, 3) := by decide +kernel
theorem dX14_askStatement_33 : decode cX14_askStatement 33 = .ok (.aload_n 0, 1) := by decide +kernel
theorem dX14_askStatement_34 : decode cX14_askStatement 34 = .ok (.iload_n 3, 1) := by decide +kernel
theorem dX14_askStatement_35 : decode cX14_askStatement 35 = .ok (.invokevirtual 368, 3) := by decide +kernel
theorem dX14_askStatement_38 : decode cX14_askStatement 38 = .ok (.ifCond .ne 13, 3) := by decide +kernel
theorem dX14_askStatement_41 : decode cX14_askStatement 41 = .ok (.aload_n 0, 1) := by decide +kernel
theorem dX14_askStatement_42 : decode cX14_askStatement 42 = .ok (.sipush (-32602), 3) := by decide +kernel
theorem dX14_askStatement_45 : decode cX14_askStatement 45 = .ok (.invokevirtual 425, 3) := by decide +kernel
theorem dX14_askStatement_48 : decode cX14_askStatement 48 = .ok (.goto 151, 3) := by decide +kernel
theorem dX14_askStatement_51 : decode cX14_askStatement 51 = .ok (.aload_n 2, 1) := by decide +kernel
theorem dX14_askStatement_52 : decode cX14_askStatement 52 = .ok (.getfield 531, 3) := by decide +kernel
theorem dX14_askStatement_55 : decode cX14_askStatement 55 = .ok (.aload_n 2, 1) := by decide +kernel
theorem dX14_askStatement_56 : decode cX14_askStatement 56 = .ok (.getfield 587, 3) := by decide +kernel
theorem dX14_askStatement_59 : decode cX14_askStatement 59 = .ok (.if_icmp .ne 50, 3) := by decide +kernel
theorem dX14_askStatement_62 : decode cX14_askStatement 62 = .ok (.aload_n 0, 1) := by decide +kernel
theorem dX14_askStatement_63 : decode cX14_askStatement 63 = .ok (.invokevirtual 466, 3) := by decide +kernel
theorem dX14_askStatement_66 : decode cX14_askStatement 66 = .ok (.aload_n 0, 1) := by decide +kernel
theorem dX14_askStatement_67 : decode cX14_askStatement 67 = .ok (.aload_n 2, 1) := by decide +kernel
theorem dX14_askStatement_68 : decode cX14_askStatement 68 = .ok (.aload_n 2, 1) := by decide +kernel
theorem dX14_askStatement_69 : decode cX14_askStatement 69 = .ok (.getfield 587, 3) := by decide +kernel
theorem dX14_askStatement_72 : decode cX14_askStatement 72 = .ok (.invokevirtual 697, 3) := by decide +kernel
theorem dX14_askStatement_75 : decode cX14_askStatement 75 = .ok (.aload_n 0, 1) := by decide +kernel
theorem dX14_askStatement_76 : decode cX14_askStatement 76 = .ok (.aload_n 0, 1) := by decide +kernel
theorem dX14_askStatement_77 : decode cX14_askStatement 77 = .ok (.getfield 65, 3) := by decide +kernel
theorem dX14_askStatement_80 : decode cX14_askStatement 80 = .ok (.aload_n 0, 1) := by decide +kernel
theorem dX14_askStatement_81 : decode cX14_askStatement 81 = .ok (.getfield 52, 3) := by decide +kernel
theorem dX14_askStatement_84 : decode cX14_askStatement 84 = .ok (.iload_n 3, 1) := by decide +kernel
theorem dX14_askStatement_85 : decode cX14_askStatement 85 = .ok (.iaload, 1) := by decide +kernel
theorem dX14_askStatement_86 : decode cX14_askStatement 86 = .ok (.aload_n 0, 1) := by decide +kernel
theorem dX14_askStatement_87 : decode cX14_askStatement 87 = .ok (.getfield 55, 3) := by decide +kernel
theorem dX14_askStatement_90 : decode cX14_askStatement 90 = .ok (.iload_n 3, 1) := by decide +kernel
theorem dX14_askStatement_91 : decode cX14_askStatement 91 = .ok (.iaload, 1) := by decide +kernel
theorem dX14_askStatement_92 : decode cX14_askStatement 92 = .ok (.aload_n 0, 1) := by decide +kernel
theorem dX14_askStatement_93 : decode cX14_askStatement 93 = .ok (.getfield 52, 3) := by decide +kernel
theorem dX14_askStatement_96 : decode cX14_askStatement 96 = .ok (.iload_n 3, 1) := by decide +kernel
theorem dX14_askStatement_97 : decode cX14_askStatement 97 = .ok (.iaload, 1) := by decide +kernel
theorem dX14_askStatement_98 : decode cX14_askStatement 98 = .ok (.isub, 1) := by decide +kernel
theorem dX14_askStatement_99 : decode cX14_askStatement 99 = .ok (.invokevirtual 708, 3) := by decide +kernel
theorem dX14_askStatement_102 : decode cX14_askStatement 102 = .ok (.aload_n 0, 1) := by decide +kernel
theorem dX14_askStatement_103 : decode cX14_askStatement 103 = .ok (.invokevirtual 422, 3) := by decide +kernel
theorem dX14_askStatement_106 : decode cX14_askStatement 106 = .ok (.goto 93, 3) := by decide +kernel
theorem dX14_askStatement_109 : decode cX14_askStatement 109 = .ok (.aload_n 0, 1) := by decide +kernel
theorem dX14_askStatement_110 : decode cX14_askStatement 110 = .ok (.aload_n 2, 1) := by decide +kernel
theorem dX14_askStatement_111 : decode cX14_askStatement 111 = .ok (.iconst 0, 1) := by decide +kernel
theorem dX14_askStatement_112 : decode cX14_askStatement 112 = .ok (.aload_n 2, 1) := by decide +kernel
theorem dX14_askStatement_113 : decode cX14_askStatement 113 = .ok (.getfield 587, 3) := by decide +kernel
theorem dX14_askStatement_116 : decode cX14_askStatement 116 = .ok (.invokevirtual 703, 3) := by decide +kernel
theorem dX14_askStatement_119 : decode cX14_askStatement 119 = .ok (.ifCond .eq 80, 3) := by decide +kernel
theorem dX14_askStatement_122 : decode cX14_askStatement 122 = .ok (.aload_n 0, 1) := by decide +kernel
theorem dX14_askStatement_123 : decode cX14_askStatement 123 = .ok (.getfield 711, 3) := by decide +kernel
theorem dX14_askStatement_126 : decode cX14_askStatement 126 = .ok (.iconst 1, 1) := by decide +kernel
theorem dX14_askStatement_127 : decode cX14_askStatement 127 = .ok (.isub, 1) := by decide +kernel
theorem dX14_askStatement_128 : decode cX14_askStatement 128 = .ok (.istore 4, 2) := by decide +kernel
theorem dX14_askStatement_130 : decode cX14_askStatement 130 = .ok (.aload_n 0, 1) := by decide +kernel
theorem dX14_askStatement_131 : decode cX14_askStatement 131 = .ok (.getfield 116, 3) := by decide +kernel
theorem dX14_askStatement_134 : decode cX14_askStatement 134 = .ok (.iload 4, 2) := by decide +kernel
theorem dX14_askStatement_136 : decode cX14_askStatement 136 = .ok (.aload_n 0, 1) := by decide +kernel
theorem dX14_askStatement_137 : decode cX14_askStatement 137 = .ok (.getfield 55, 3) := by decide +kernel
theorem dX14_askStatement_140 : decode cX14_askStatement 140 = .ok (.iload_n 3, 1) := by decide +kernel
theorem dX14_askStatement_141 : decode cX14_askStatement 141 = .ok (.iaload, 1) := by decide +kernel
theorem dX14_askStatement_142 : decode cX14_askStatement 142 = .ok (.aload_n 0, 1) := by decide +kernel
theorem dX14_askStatement_143 : decode cX14_askStatement 143 = .ok (.getfield 52, 3) := by decide +kernel
theorem dX14_askStatement_146 : decode cX14_askStatement 146 = .ok (.iload_n 3, 1) := by decide +kernel
theorem dX14_askStatement_147 : decode cX14_askStatement 147 = .ok (.iaload, 1) := by decide +kernel
theorem dX14_askStatement_148 : decode cX14_askStatement 148 = .ok (.isub, 1) := by decide +kernel
theorem dX14_askStatement_149 : decode cX14_askStatement 149 = .ok (.iastore, 1) := by decide +kernel
theorem dX14_askStatement_150 : decode cX14_askStatement 150 = .ok (.iconst 0, 1) := by decide +kernel
theorem dX14_askStatement_151 : decode cX14_askStatement 151 = .ok (.istore 5, 2) := by decide +kernel
theorem dX14_askStatement_153 : decode cX14_askStatement 153 = .ok (.iload 5, 2) := by decide +kernel
theorem dX14_askStatement_155 : decode cX14_askStatement 155 = .ok (.aload_n 0, 1) := by decide +kernel
theorem dX14_askStatement_156 : decode cX14_askStatement 156 = .ok (.getfield 116, 3) := by decide +kernel
theorem dX14_askStatement_159 : decode cX14_askStatement 159 = .ok (.iload 4, 2) := by decide +kernel
theorem dX14_askStatement_161 : decode cX14_askStatement 161 = .ok (.iaload, 1) := by decide +kernel
theorem dX14_askStatement_162 : decode cX14_askStatement 162 = .ok (.if_icmp .ge 37, 3) := by decide +kernel
theorem dX14_askStatement_165 : decode cX14_askStatement 165 = .ok (.aload_n 0, 1) := by decide +kernel
theorem dX14_askStatement_166 : decode cX14_askStatement 166 = .ok (.getfield 113, 3) := by decide +kernel
theorem dX14_askStatement_169 : decode cX14_askStatement 169 = .ok (.sipush 3100, 3) := by decide +kernel
theorem dX14_askStatement_172 : decode cX14_askStatement 172 = .ok (.iload 4, 2) := by decide +kernel
theorem dX14_askStatement_174 : decode cX14_askStatement 174 = .ok (.imul, 1) := by decide +kernel
theorem dX14_askStatement_175 : decode cX14_askStatement 175 = .ok (.iload 5, 2) := by decide +kernel
theorem dX14_askStatement_177 : decode cX14_askStatement 177 = .ok (.iadd, 1) := by decide +kernel
theorem dX14_askStatement_178 : decode cX14_askStatement 178 = .ok (.aload_n 0, 1) := by decide +kernel
theorem dX14_askStatement_179 : decode cX14_askStatement 179 = .ok (.getfield 65, 3) := by decide +kernel
theorem dX14_askStatement_182 : decode cX14_askStatement 182 = .ok (.aload_n 0, 1) := by decide +kernel
theorem dX14_askStatement_183 : decode cX14_askStatement 183 = .ok (.getfield 52, 3) := by decide +kernel
theorem dX14_askStatement_186 : decode cX14_askStatement 186 = .ok (.iload_n 3, 1) := by decide +kernel
theorem dX14_askStatement_187 : decode cX14_askStatement 187 = .ok (.iaload, 1) := by decide +kernel
theorem dX14_askStatement_188 : decode cX14_askStatement 188 = .ok (.iload 5, 2) := by decide +kernel
theorem dX14_askStatement_190 : decode cX14_askStatement 190 = .ok (.iadd, 1) := by decide +kernel
theorem dX14_askStatement_191 : decode cX14_askStatement 191 = .ok (.iaload, 1) := by decide +kernel
theorem dX14_askStatement_192 : decode cX14_askStatement 192 = .ok (.iastore, 1) := by decide +kernel
theorem dX14_askStatement_193 : decode cX14_askStatement 193 = .ok (.iinc 5 1, 3) := by decide +kernel
theorem dX14_askStatement_196 : decode cX14_askStatement 196 = .ok (.goto (-43), 3) := by decide +kernel
theorem dX14_askStatement_199 : decode cX14_askStatement 199 = .ok (.return_, 1) := by decide +kernel
def EX14_isNamedP : List (Nat × Nat) := []
def EX14_statementOfP : List (Nat × Nat) := [(15, 46), (15, 49), (16, 6), (101, 0), (163, 0), (164, 0)]
def qtx2947 : String := match tables_1[2947]? with | some (Jvm.Cond.stringRef _ _ t) => t | _ => ""
set_option maxHeartbeats 4000000 in
set_option maxRecDepth 20000 in
theorem uX14_isNamedP (l : Launch) (dC : Nat → ClassId) (dI : Nat → Nat → Nat) (ca : Nat → ClassId) (base : Nat) (B : jF) (hB : jBok B) (hAp : jAp (dC, dI)) (hB15 : ∀ n G a H, B 15 n G a H ↔ jOb (dC, dI) 15 50 (F15 n G) a H) (hB16 : ∀ n G a H, B 16 n G a H ↔ jOb (dC, dI) 16 74 (F16 n G) a H) (hB127 : ∀ n G a H, B 127 n G a H ↔ jAr (dC, dI) (ca 1) (fun j z => True) n a H) (hB155 : ∀ n G a H, B 155 n G a H ↔ jAr (dC, dI) (ca 1) (fun j z => 0 ≤ z.toInt ∧ z.toInt ≤ 11990) n a H) (hB156 : ∀ n G a H, B 156 n G a H ↔ jAr (dC, dI) (ca 1) (fun j z => 0 ≤ z.toInt ∧ z.toInt ≤ 10) n a H) (hB166 : ∀ n G a H, B 166 n G a H ↔ jAr (dC, dI) (ca 1) (fun j z => True) n a H) (G0 : jT) (H0 : Heap) (r0 : Nat) (a1 : Int32) (r2 : Nat) (a3 : Int32) (a4 : Int32) (n2 : Nat) : Met l yX14_isNamed (jw yX14_isNamed cX14_isNamed 7 (some .boolean)) ({ frames := 0, cells := 0, slots := 0, locals := 0 }) (va_Pc [.ref r0, .int a1, .ref r2, .int a3, .int a4] (fun U => U.heap = H0 ∧ jX B base G0 [] H0 ∧ jG dC dI ca base U ∧ G0 r2 = some (127, n2) ∧ G0 r0 = some (16, 0) ∧ jP (dC, dI) G0 H0 [] ∧ 0 ≤ a1.toInt ∧ a1.toInt ≤ 1599 ∧ 0 ≤ a3.toInt ∧ a3.toInt + a4.toInt ≤ n2 ∧ n2 ≤ 200000)) (va_Qi (S := Unit) (fun r u => (r = 0 ∨ r = 1) ∧ (True)) (fun u t => jRt (dC, dI) B base G0 EX14_isNamedP H0 [] t.heap) (jA base)) 0 0 (jA base) := by
  refine Met.ofW (cc := cX14_isNamed) (maxL := 7) (ret := (some .boolean)) (by decide) rfl ?_
  intro p e s m args below meth c s₁ Bd hml hv
  obtain ⟨rfl, hH0, hX, hG, hg_r2, hg_r0, hP0, hp0, hp1, hp2, hp3, hp4⟩ := hv
  have hK := hG.1
  have hx := Bd.exec
  have hb := Bd.bytes
  have hr := Bd.returns
  have hts := atoms_spec (ws := (jw yX14_isNamed cX14_isNamed 7 (some .boolean))) Bd.pre
  have htw : ∀ w ∈ jWl, w.before _ s = true := fun w h => hts w (List.mem_cons_of_mem _ h)
  have hown : s.vm.findClass RX14 = some m.cls := findClass_of_methodNamed Bd.named
  have hlocks := Bd.notSynchronized
  obtain ⟨Q, hQ⟩ : ∃ Q, Q = MQ below (va_Qi (S := Unit) (fun r u => (r = 0 ∨ r = 1) ∧ (True)) (fun u t => jRt (dC, dI) B base G0 EX14_isNamedP H0 [] t.heap) (jA base)) ([.ref r0, .int a1, .ref r2, .int a3, .int a4] : List Value).toArray s 0 0 (jA base) := ⟨_, rfl⟩
  rw [← hQ]
  have hl := lv_entry ([.ref r0, .int a1, .ref r2, .int a3, .int a4]) (n := 7) (Nat.le_of_ble_eq_true rfl)
  rw [lg_entry_eq]
  generalize (lg_sl ([.ref r0, .int a1, .ref r2, .int a3, .int a4]) ++ List.replicate (7 - (lg_sl ([.ref r0, .int a1, .ref r2, .int a3, .int a4])).length) Slot.unset).toArray = ls at hl ⊢
  have hl : lv_has ls 7 [(0, .ref r0), (1, .int a1), (2, .ref r2), (3, .int a3), (4, .int a4)] := hl
  generalize hR : (headSpec (jw yX14_isNamed cX14_isNamed 7 (some .boolean)) ({ frames := 0, cells := 0, slots := 0, locals := 0 })).room = R
  subst hH0
  have hh : jSt (dC, dI) B base G0 G0 EX14_isNamedP s.heap 0 0 [] [] [] s.heap [] := jSt.start hX hP0 jMc.nil jIs.nil
  clear hX hP0
  have hk0 : (0 : Int32).toInt = 0 := by decide
  have hk1 : (1 : Int32).toInt = 1 := by decide
  have hly_15_6 := htw (u_lay RX13 TX13 6) (jWc_wsX130 _ (u_in_lay (by decide)))
  have hly_15_8 := htw (u_lay RX13 TX13 8) (jWc_wsX130 _ (u_in_lay (by decide)))
  have hly_15_9 := htw (u_lay RX13 TX13 9) (jWc_wsX130 _ (u_in_lay (by decide)))
  have hly_16_58 := htw (u_lay RX14 TX14 58) (jWc_wsX140 _ (u_in_lay (by decide)))
  have hlk_122 := (htw (.fieldLink RX14 122 "ProofServerModel" "kernel" "LProofServerModel$Kernel;") (jWr_12 _ (List.mem_of_getElem? (i := 13) rfl)))
  have hlk_686 := (va_Nw.use (A := ([.ref r0, .int a1, .ref r2, .int a3, .int a4] : List Value).toArray) rfl (hG.2.1 RX14 686 "ProofServerModel$Kernel" "nameLength" "[I" "ProofServerModel" (List.mem_of_getElem? (i := 1792) (by decide +kernel))))
  have hlk_689 := (va_Nw.use (A := ([.ref r0, .int a1, .ref r2, .int a3, .int a4] : List Value).toArray) rfl (hG.2.1 RX14 689 "ProofServerModel$Kernel" "signs" "[I" "ProofServerModel" (List.mem_of_getElem? (i := 1787) (by decide +kernel))))
  have hlk_692 := (va_Nw.use (A := ([.ref r0, .int a1, .ref r2, .int a3, .int a4] : List Value).toArray) rfl (hG.2.1 RX14 692 "ProofServerModel$Kernel" "nameAt" "[I" "ProofServerModel" (List.mem_of_getElem? (i := 1790) (by decide +kernel))))
  have hrg_a1 := jb_rng a1
  have hrg_a3 := jb_rng a3
  have hrg_a4 := jb_rng a4
  refine lv_aload_n hx hb dX14_isNamed_0 rfl (lv_at hl 0 rfl) ?_
  obtain ⟨v_1, hv_1, hh_2⟩ := hh.pin (C := RX14) (T := TX14) (N := 74) hB16 rfl (by decide) hg_r0 (i := 58) (by decide) rfl
  clear hh
  obtain ⟨kernel_3, rfl, hg_kernel_3⟩ := hv_1
  refine j7_read hx hb hown hK (C := RX14) (T := TX14) (N := 74) rfl hly_16_58 hlk_122 (hh_2.at 0 rfl) dX14_isNamed_1 ?_
  obtain ⟨v_4, hv_4, hh_5⟩ := hh_2.pin (C := RX13) (T := TX13) (N := 50) hB15 rfl (by decide) hg_kernel_3 (i := 9) (by decide) rfl
  clear hh_2
  obtain ⟨nameLength_6, rfl, hg_nameLength_6⟩ := hv_4
  refine j7_readN hx hb hown hK (C := RX13) (T := TX13) (N := 50) rfl hly_15_9 hlk_686 (hh_5.at 0 rfl) dX14_isNamed_4 ?_
  refine lv_iload_n hx hb dX14_isNamed_7 rfl (lv_at hl 1 rfl) ?_
  refine j7_iald hx hb hK hh_5 hB156 1 rfl (by decide) hg_nameLength_6 (x := a1.toInt) (rfl) (by omega) dX14_isNamed_8 (fun z_7 (hz_7 : 0 ≤ z_7.toInt ∧ z_7.toInt ≤ 10) => ?_)
  refine lv_iload hx hb dX14_isNamed_9 (lv_at hl 4 rfl) ?_
  have C19 : ∀ (w0_8 : Int32) (H_8 : Heap) (locs_8 : List Loc), jSt (dC, dI) B base G0 G0 EX14_isNamedP s.heap 0 0 [(kernel_3, 15, 9, .ref nameLength_6), (r0, 16, 58, .ref kernel_3)] [] [] H_8 locs_8 → (w0_8 = 0 ∨ w0_8 = 1) → (w0_8.toInt = 0 ∨ a4.toInt ≤ 10) → ∀ ls : Array Slot, lv_has ls 7 [(0, .ref r0), (1, .int a1), (2, .ref r2), (3, .int a3), (4, .int a4)] → W p l e R s m ([.ref r0, .int a1, .ref r2, .int a3, .int a4] : List Value).toArray below meth c H_8 locs_8 0 0 Q (F0 m 19 ls [.int w0_8]) := by
    intro w0_8 H_8 locs_8 hh_8 hb_w0_8 hi_8 ls hl
    have hb_w0_8' := jb_01 hb_w0_8
    refine lv_istore (lv' := [(5, .int w0_8), (0, .ref r0), (1, .int a1), (2, .ref r2), (3, .int a3), (4, .int a4)]) hx hb dX14_isNamed_19 hl (by decide) rfl (fun ls hl => ?_)
    refine lv_iconst (v := 0) hx hb dX14_isNamed_21 (by decide) ?_
    refine lv_istore (lv' := [(6, .int 0), (5, .int w0_8), (0, .ref r0), (1, .int a1), (2, .ref r2), (3, .int a3), (4, .int a4)]) hx hb dX14_isNamed_22 hl (by decide) rfl (fun ls hl => ?_)
    have L24 : ∀ (N : Nat) (v5_9 : Int32) (v6_9 : Int32) (H_9 : Heap) (locs_9 : List Loc), jSt (dC, dI) B base G0 G0 EX14_isNamedP s.heap 0 0 [(kernel_3, 15, 9, .ref nameLength_6), (r0, 16, 58, .ref kernel_3)] [] [] H_9 locs_9 → (v5_9 = 0 ∨ v5_9 = 1) → (0 ≤ v6_9.toInt ∧ v6_9.toInt ≤ 200000 ∧ (v5_9.toInt = 0 ∨ a4.toInt ≤ 10)) → (((a4.toInt - v6_9.toInt).toNat : Int) : Int) < N → ∀ ls : Array Slot, lv_has ls 7 [(0, .ref r0), (1, .int a1), (2, .ref r2), (3, .int a3), (4, .int a4), (5, .int v5_9), (6, .int v6_9)] → W p l e R s m ([.ref r0, .int a1, .ref r2, .int a3, .int a4] : List Value).toArray below meth c H_9 locs_9 0 0 Q (F0 m 24 ls []) := by
      intro N
      induction N with
      | zero => intro v5_9 v6_9 H_9 locs_9 hh_9 hb_v5_9 hi_9 hm; exact absurd hm (by omega)
      | succ N L24 =>
        intro v5_9 v6_9 H_9 locs_9 hh_9 hb_v5_9 hi_9 hm_9 ls hl
        obtain ⟨hi_9_0, hi_9_1, hi_9_2⟩ := hi_9
        have hb_v5_9' := jb_01 hb_v5_9
        refine lv_iload hx hb dX14_isNamed_24 (lv_at hl 6 rfl) ?_
        refine lv_iload hx hb dX14_isNamed_26 (lv_at hl 4 rfl) ?_
        refine lv_icmp_ge (tgt := 78) hx hb dX14_isNamed_28 (by decide) (fun c_10 => ?_) (fun c_10 => ?_)
        · skip
          have c_10' : v6_9.toInt ≥ a4.toInt := jb_ge (rfl) (rfl) c_10
          refine lv_iload hx hb dX14_isNamed_78 (lv_at hl 5 rfl) ?_
          rw [hQ]
          exact W.zret (v := v5_9) hx hb hr (jb_nz (hb_v5_9)) (fun t ht hW => ⟨⟨v5_9, (), rfl, ⟨(hb_v5_9), trivial⟩, hh_9.rt (M1 := []) [] rfl ht⟩, by rw [ht]; try exact hh_9.1.1, fun q h9 hq => by rw [ht]; try exact hh_9.1.2.1 q h9 hq⟩) hh_9.1.2.2 dX14_isNamed_80
        · skip
          have c_10' : v6_9.toInt < a4.toInt := jb_ge_n (rfl) (rfl) c_10
          refine lv_iload hx hb dX14_isNamed_31 (lv_at hl 5 rfl) ?_
          refine lv_if_eq (tgt := 78) hx hb dX14_isNamed_33 (by decide) (fun c_11 => ?_) (fun c_11 => ?_)
          · skip
            have c_11' : v5_9.toInt = 0 := jb_eq (rfl) ((by decide)) c_11
            refine lv_iload hx hb dX14_isNamed_78 (lv_at hl 5 rfl) ?_
            rw [hQ]
            exact W.zret (v := v5_9) hx hb hr (jb_nz (hb_v5_9)) (fun t ht hW => ⟨⟨v5_9, (), rfl, ⟨(hb_v5_9), trivial⟩, hh_9.rt (M1 := []) [] rfl ht⟩, by rw [ht]; try exact hh_9.1.1, fun q h9 hq => by rw [ht]; try exact hh_9.1.2.1 q h9 hq⟩) hh_9.1.2.2 dX14_isNamed_80
          · skip
            have c_11' : v5_9.toInt ≠ 0 := jb_eq_n (rfl) ((by decide)) c_11
            refine lv_aload_n hx hb dX14_isNamed_36 rfl (lv_at hl 0 rfl) ?_
            refine j7_read hx hb hown hK (C := RX14) (T := TX14) (N := 74) rfl hly_16_58 hlk_122 (hh_9.at 1 rfl) dX14_isNamed_37 ?_
            obtain ⟨v_12, hv_12, hh_13⟩ := hh_9.pin (C := RX13) (T := TX13) (N := 50) hB15 rfl (by decide) hg_kernel_3 (i := 6) (by decide) rfl
            clear hh_9
            obtain ⟨signs_14, rfl, hg_signs_14⟩ := hv_12
            refine j7_readN hx hb hown hK (C := RX13) (T := TX13) (N := 50) rfl hly_15_6 hlk_689 (hh_13.at 0 rfl) dX14_isNamed_40 ?_
            refine lv_aload_n hx hb dX14_isNamed_43 rfl (lv_at hl 0 rfl) ?_
            refine j7_read hx hb hown hK (C := RX14) (T := TX14) (N := 74) rfl hly_16_58 hlk_122 (hh_13.at 2 rfl) dX14_isNamed_44 ?_
            obtain ⟨v_15, hv_15, hh_16⟩ := hh_13.pin (C := RX13) (T := TX13) (N := 50) hB15 rfl (by decide) hg_kernel_3 (i := 8) (by decide) rfl
            clear hh_13
            obtain ⟨nameAt_17, rfl, hg_nameAt_17⟩ := hv_15
            refine j7_readN hx hb hown hK (C := RX13) (T := TX13) (N := 50) rfl hly_15_8 hlk_692 (hh_16.at 0 rfl) dX14_isNamed_47 ?_
            refine lv_iload_n hx hb dX14_isNamed_50 rfl (lv_at hl 1 rfl) ?_
            refine j7_iald hx hb hK hh_16 hB155 1 rfl (by decide) hg_nameAt_17 (x := a1.toInt) (rfl) (by omega) dX14_isNamed_51 (fun z_18 (hz_18 : 0 ≤ z_18.toInt ∧ z_18.toInt ≤ 11990) => ?_)
            refine lv_iload hx hb dX14_isNamed_52 (lv_at hl 6 rfl) ?_
            refine lv_iadd hx hb dX14_isNamed_54 ?_
            refine lv_topi (fun z_19 ez_19 => ?_)
            have hz_19 : z_19.toInt = z_18.toInt + v6_9.toInt := by rw [ez_19]; exact jb_iadd2 (rfl) (rfl) (by omega)
            refine j7_iald hx hb hK hh_16 hB166 1 rfl (by decide) hg_signs_14 (x := z_19.toInt) (rfl) (by omega) dX14_isNamed_55 (fun z_20 (hz_20 : True) => ?_)
            refine lv_aload_n hx hb dX14_isNamed_56 rfl (lv_at hl 2 rfl) ?_
            refine lv_iload_n hx hb dX14_isNamed_57 rfl (lv_at hl 3 rfl) ?_
            refine lv_iload hx hb dX14_isNamed_58 (lv_at hl 6 rfl) ?_
            refine lv_iadd hx hb dX14_isNamed_60 ?_
            refine lv_topi (fun z_21 ez_21 => ?_)
            have hz_21 : z_21.toInt = a3.toInt + v6_9.toInt := by rw [ez_21]; exact jb_iadd2 (rfl) (rfl) (by omega)
            refine j7_iald hx hb hK hh_16 hB127 1 rfl (by decide) hg_r2 (x := z_21.toInt) (rfl) (by omega) dX14_isNamed_61 (fun z_22 (hz_22 : True) => ?_)
            refine lv_icmp_ne (tgt := 69) hx hb dX14_isNamed_62 (by decide) (fun c_23 => ?_) (fun c_23 => ?_)
            · skip
              have c_23' : z_20.toInt ≠ z_22.toInt := jb_ne (rfl) (rfl) c_23
              refine lv_iconst (v := 0) hx hb dX14_isNamed_69 (by decide) ?_
              refine lv_istore (lv' := [(5, .int 0), (0, .ref r0), (1, .int a1), (2, .ref r2), (3, .int a3), (4, .int a4), (6, .int v6_9)]) hx hb dX14_isNamed_70 hl (by decide) rfl (fun ls hl => ?_)
              obtain ⟨z_24, ez_24⟩ : ∃ y : Int32, y = v6_9 + 1 := ⟨_, rfl⟩
              refine lv_iinc (v := z_24) (lv' := [(6, .int z_24), (5, .int 0), (0, .ref r0), (1, .int a1), (2, .ref r2), (3, .int a3), (4, .int a4)]) hx hb dX14_isNamed_72 hl (k := 6) rfl (by rw [ez_24]; rfl) (by decide) rfl (fun ls hl => ?_)
              have hz_24 : z_24.toInt = v6_9.toInt + 1 := by rw [ez_24]; exact jb_iadd2 (rfl) (by decide) (by omega)
              refine lv_goto (tgt := 24) hx hb dX14_isNamed_75 (by decide) ?_
              exact L24 0 z_24 _ _ (hh_16.sub (L1 := [(kernel_3, 15, 9, .ref nameLength_6), (r0, 16, 58, .ref kernel_3)]) [2, 3] rfl (M1 := []) [] rfl (I1 := []) [] rfl) (Or.inl rfl) (by first | omega | (refine ⟨?_, ?_, ?_⟩ <;> (first | omega | rfl | assumption | decide | exact Or.inl rfl | exact Or.inr rfl | (simp only; omega)))) (by omega) _ (lv_sub hl [2, 3, 4, 5, 6, 1, 0] rfl)
            · skip
              have c_23' : z_20.toInt = z_22.toInt := jb_ne_n (rfl) (rfl) c_23
              refine lv_iconst (v := 1) hx hb dX14_isNamed_65 (by decide) ?_
              refine lv_goto (tgt := 70) hx hb dX14_isNamed_66 (by decide) ?_
              refine lv_istore (lv' := [(5, .int 1), (0, .ref r0), (1, .int a1), (2, .ref r2), (3, .int a3), (4, .int a4), (6, .int v6_9)]) hx hb dX14_isNamed_70 hl (by decide) rfl (fun ls hl => ?_)
              obtain ⟨z_25, ez_25⟩ : ∃ y : Int32, y = v6_9 + 1 := ⟨_, rfl⟩
              refine lv_iinc (v := z_25) (lv' := [(6, .int z_25), (5, .int 1), (0, .ref r0), (1, .int a1), (2, .ref r2), (3, .int a3), (4, .int a4)]) hx hb dX14_isNamed_72 hl (k := 6) rfl (by rw [ez_25]; rfl) (by decide) rfl (fun ls hl => ?_)
              have hz_25 : z_25.toInt = v6_9.toInt + 1 := by rw [ez_25]; exact jb_iadd2 (rfl) (by decide) (by omega)
              refine lv_goto (tgt := 24) hx hb dX14_isNamed_75 (by decide) ?_
              exact L24 1 z_25 _ _ (hh_16.sub (L1 := [(kernel_3, 15, 9, .ref nameLength_6), (r0, 16, 58, .ref kernel_3)]) [2, 3] rfl (M1 := []) [] rfl (I1 := []) [] rfl) (Or.inr rfl) (by first | omega | (refine ⟨?_, ?_, ?_⟩ <;> (first | omega | rfl | assumption | decide | exact Or.inl rfl | exact Or.inr rfl | (simp only; omega)))) (by omega) _ (lv_sub hl [2, 3, 4, 5, 6, 1, 0] rfl)
    exact L24 (((a4.toInt - (0 : Int32).toInt).toNat : Int) : Int).toNat.succ w0_8 0 _ _ hh_8 (hb_w0_8) (by first | omega | (refine ⟨?_, ?_, ?_⟩ <;> (first | omega | rfl | assumption | decide | exact Or.inl rfl | exact Or.inr rfl | (simp only; omega)))) (by omega) _ (lv_sub hl [2, 3, 4, 5, 6, 1, 0] rfl)
  refine lv_icmp_ne (tgt := 18) hx hb dX14_isNamed_11 (by decide) (fun c_26 => ?_) (fun c_26 => ?_)
  · skip
    have c_26' : z_7.toInt ≠ a4.toInt := jb_ne (rfl) (rfl) c_26
    refine lv_iconst (v := 0) hx hb dX14_isNamed_18 (by decide) ?_
    exact C19 0 _ _ hh_5 (Or.inl rfl) (by first | omega | rfl | assumption | decide | exact Or.inl rfl | exact Or.inr rfl | (simp only; omega)) _ (lv_sub hl [0, 1, 2, 3, 4] rfl)
  · skip
    have c_26' : z_7.toInt = a4.toInt := jb_ne_n (rfl) (rfl) c_26
    refine lv_iconst (v := 1) hx hb dX14_isNamed_14 (by decide) ?_
    refine lv_goto (tgt := 19) hx hb dX14_isNamed_15 (by decide) ?_
    exact C19 1 _ _ hh_5 (Or.inr rfl) (by first | omega | rfl | assumption | decide | exact Or.inl rfl | exact Or.inr rfl | (simp only; omega)) _ (lv_sub hl [0, 1, 2, 3, 4] rfl)
set_option maxHeartbeats 4000000 in
set_option maxRecDepth 20000 in
theorem uX14_statementOfP (l : Launch) (dC : Nat → ClassId) (dI : Nat → Nat → Nat) (ca : Nat → ClassId) (base : Nat) (B : jF) (hB : jBok B) (hAp : jAp (dC, dI)) (hB15 : ∀ n G a H, B 15 n G a H ↔ jOb (dC, dI) 15 50 (F15 n G) a H) (hB16 : ∀ n G a H, B 16 n G a H ↔ jOb (dC, dI) 16 74 (F16 n G) a H) (hB101 : ∀ n G a H, B 101 n G a H ↔ jAr (dC, dI) (ca 1) (fun j z => True) n a H) (hB127 : ∀ n G a H, B 127 n G a H ↔ jAr (dC, dI) (ca 1) (fun j z => True) n a H) (hB150 : ∀ n G a H, B 150 n G a H ↔ jAr (dC, dI) (ca 1) (fun j z => True) n a H) (hB151 : ∀ n G a H, B 151 n G a H ↔ jAr (dC, dI) (ca 1) (fun j z => True) n a H) (hB152 : ∀ n G a H, B 152 n G a H ↔ jAr (dC, dI) (ca 1) (fun j z => True) n a H) (hB153 : ∀ n G a H, B 153 n G a H ↔ jAr (dC, dI) (ca 1) (fun j z => True) n a H) (hB154 : ∀ n G a H, B 154 n G a H ↔ jAr (dC, dI) (ca 1) (fun j z => True) n a H) (hB155 : ∀ n G a H, B 155 n G a H ↔ jAr (dC, dI) (ca 1) (fun j z => 0 ≤ z.toInt ∧ z.toInt ≤ 11990) n a H) (hB156 : ∀ n G a H, B 156 n G a H ↔ jAr (dC, dI) (ca 1) (fun j z => 0 ≤ z.toInt ∧ z.toInt ≤ 10) n a H) (hB160 : ∀ n G a H, B 160 n G a H ↔ jAr (dC, dI) (ca 1) (fun j z => 0 ≤ z.toInt ∧ z.toInt ≤ 119999) n a H) (hB163 : ∀ n G a H, B 163 n G a H ↔ jAr (dC, dI) (ca 1) (fun j z => 0 ≤ z.toInt ∧ z.toInt ≤ 1599) n a H) (hB164 : ∀ n G a H, B 164 n G a H ↔ jAr (dC, dI) (ca 1) (fun j z => 0 ≤ z.toInt ∧ z.toInt ≤ 100000) n a H) (hB165 : ∀ n G a H, B 165 n G a H ↔ jAr (dC, dI) (ca 1) (fun j z => 0 ≤ z.toInt ∧ z.toInt ≤ 3) n a H) (hB166 : ∀ n G a H, B 166 n G a H ↔ jAr (dC, dI) (ca 1) (fun j z => True) n a H) (G0 : jT) (H0 : Heap) (r0 : Nat) (r1 : Nat) (a2 : Int32) (a3 : Int32) (n1 : Nat) (kr : Nat) (pf : Int32) (py : Int32) (zf : Nat) (zs : Nat) (zn : Nat) (za : Nat) (zb : Nat) (zc : Nat) (zy : Nat) (gN : Int) (gY : Int) (ff : Nat → Int32) (C : jK) : Met l yX14_statementOf (jw yX14_statementOf cX14_statementOf 7 none) ({ frames := 252, cells := 0, slots := 0, locals := 8244 }) (va_Pc [.ref r0, .ref r1, .int a2, .int a3] (fun U => U.heap = H0 ∧ jX B base G0 [] H0 ∧ jG dC dI ca base U ∧ G0 r1 = some (127, n1) ∧ G0 r0 = some (16, 0) ∧ G0 kr = some (15, 0) ∧ G0 zf = some (160, 16) ∧ G0 zs = some (150, 120000) ∧ G0 zn = some (151, 120000) ∧ G0 za = some (152, 120000) ∧ G0 zb = some (153, 120000) ∧ G0 zc = some (154, 120000) ∧ G0 zy = some (165, 16) ∧ jP (dC, dI) G0 H0 [(r0, 16, 58, .ref kr), (kr, 15, 15, .int pf), (kr, 15, 11, .int py), (kr, 15, 17, .ref zf), (kr, 15, 0, .ref zs), (kr, 15, 1, .ref zn), (kr, 15, 2, .ref za), (kr, 15, 3, .ref zb), (kr, 15, 4, .ref zc), (kr, 15, 14, .ref zy)] ∧ jMc (dC, dI) G0 H0 [(zf, 160, 16, ca 1, ff), (zs, 150, 120000, ca 1, C.s), (zn, 151, 120000, ca 1, C.n), (za, 152, 120000, ca 1, C.a), (zb, 153, 120000, ca 1, C.b), (zc, 154, 120000, ca 1, C.c), (zy, 165, 16, ca 1, C.y)] ∧ jFa (jG1 C gN gY) ff pf.toInt ∧ 0 ≤ pf.toInt ∧ pf.toInt ≤ 16 ∧ 0 ≤ py.toInt ∧ py.toInt ≤ 16 ∧ gN ≤ 120000 ∧ gY ≤ 16 ∧ 0 ≤ a2.toInt ∧ a2.toInt + a3.toInt ≤ n1 ∧ n1 ≤ 200000)) (va_Qv (S := Unit) (fun u => True) (fun u t => jRt (dC, dI) B base G0 EX14_statementOfP H0 [] t.heap) (jA base)) 0 0 (jA base) := by
  refine Met.ofW (cc := cX14_statementOf) (maxL := 7) (ret := none) (by decide) rfl ?_
  intro p e s m args below meth c s₁ Bd hml hv
  obtain ⟨rfl, hH0, hX, hG, hg_r1, hg_r0, hg_kr, hg_zf, hg_zs, hg_zn, hg_za, hg_zb, hg_zc, hg_zy, hP0, hM0, hp0, hp1, hp2, hp3, hp4, hp5, hp6, hp7, hp8, hp9⟩ := hv
  have hK := hG.1
  have hx := Bd.exec
  have hb := Bd.bytes
  have hr := Bd.returns
  have hts := atoms_spec (ws := (jw yX14_statementOf cX14_statementOf 7 none)) Bd.pre
  have htw : ∀ w ∈ jWl, w.before _ s = true := fun w h => hts w (List.mem_cons_of_mem _ h)
  have hown : s.vm.findClass RX14 = some m.cls := findClass_of_methodNamed Bd.named
  have hlocks := Bd.notSynchronized
  obtain ⟨Q, hQ⟩ : ∃ Q, Q = MQ below (va_Qv (S := Unit) (fun u => True) (fun u t => jRt (dC, dI) B base G0 EX14_statementOfP H0 [] t.heap) (jA base)) ([.ref r0, .ref r1, .int a2, .int a3] : List Value).toArray s 0 0 (jA base) := ⟨_, rfl⟩
  rw [← hQ]
  have hl := lv_entry ([.ref r0, .ref r1, .int a2, .int a3]) (n := 7) (Nat.le_of_ble_eq_true rfl)
  rw [lg_entry_eq]
  generalize (lg_sl ([.ref r0, .ref r1, .int a2, .int a3]) ++ List.replicate (7 - (lg_sl ([.ref r0, .ref r1, .int a2, .int a3])).length) Slot.unset).toArray = ls at hl ⊢
  have hl : lv_has ls 7 [(0, .ref r0), (1, .ref r1), (2, .int a2), (3, .int a3)] := hl
  generalize hR : (headSpec (jw yX14_statementOf cX14_statementOf 7 none) ({ frames := 252, cells := 0, slots := 0, locals := 8244 })).room = R
  subst hH0
  have hh : jSt (dC, dI) B base G0 G0 EX14_statementOfP s.heap 0 0 [(r0, 16, 58, .ref kr), (kr, 15, 15, .int pf), (kr, 15, 11, .int py), (kr, 15, 17, .ref zf), (kr, 15, 0, .ref zs), (kr, 15, 1, .ref zn), (kr, 15, 2, .ref za), (kr, 15, 3, .ref zb), (kr, 15, 4, .ref zc), (kr, 15, 14, .ref zy)] [(zf, 160, 16, ca 1, ff), (zs, 150, 120000, ca 1, C.s), (zn, 151, 120000, ca 1, C.n), (za, 152, 120000, ca 1, C.a), (zb, 153, 120000, ca 1, C.b), (zc, 154, 120000, ca 1, C.c), (zy, 165, 16, ca 1, C.y)] [] s.heap [] := jSt.start hX hP0 hM0 jIs.nil
  clear hX hP0
  have hkm1 : ((-1) : Int32).toInt = (-1) := by decide
  have hk0 : (0 : Int32).toInt = 0 := by decide
  have hk1 : (1 : Int32).toInt = 1 := by decide
  have hly_15_11 := htw (u_lay RX13 TX13 11) (jWc_wsX130 _ (u_in_lay (by decide)))
  have hly_15_12 := htw (u_lay RX13 TX13 12) (jWc_wsX130 _ (u_in_lay (by decide)))
  have hly_15_14 := htw (u_lay RX13 TX13 14) (jWc_wsX130 _ (u_in_lay (by decide)))
  have hly_15_15 := htw (u_lay RX13 TX13 15) (jWc_wsX130 _ (u_in_lay (by decide)))
  have hly_15_16 := htw (u_lay RX13 TX13 16) (jWc_wsX130 _ (u_in_lay (by decide)))
  have hly_15_17 := htw (u_lay RX13 TX13 17) (jWc_wsX130 _ (u_in_lay (by decide)))
  have hly_15_46 := htw (u_lay RX13 TX13 46) (jWc_wsX130 _ (u_in_lay (by decide)))
  have hly_16_58 := htw (u_lay RX14 TX14 58) (jWc_wsX140 _ (u_in_lay (by decide)))
  have hlk_122 := (htw (.fieldLink RX14 122 "ProofServerModel" "kernel" "LProofServerModel$Kernel;") (jWr_12 _ (List.mem_of_getElem? (i := 13) rfl)))
  have hlk_661 := (va_Nw.use (A := ([.ref r0, .ref r1, .int a2, .int a3] : List Value).toArray) rfl (hG.2.1 RX14 661 "ProofServerModel$Kernel" "facts" "I" "ProofServerModel" (List.mem_of_getElem? (i := 1802) (by decide +kernel))))
  have hlk_664 := (va_Nw.use (A := ([.ref r0, .ref r1, .int a2, .int a3] : List Value).toArray) rfl (hG.2.1 RX14 664 "ProofServerModel$Kernel" "factName" "[I" "ProofServerModel" (List.mem_of_getElem? (i := 1804) (by decide +kernel))))
  have hlk_671 := (va_Nw.use (A := ([.ref r0, .ref r1, .int a2, .int a3] : List Value).toArray) rfl (hG.2.1 RX14 671 "ProofServerModel$Kernel" "symbols" "I" "ProofServerModel" (List.mem_of_getElem? (i := 1795) (by decide +kernel))))
  have hlk_674 := (va_Nw.use (A := ([.ref r0, .ref r1, .int a2, .int a3] : List Value).toArray) rfl (hG.2.1 RX14 674 "ProofServerModel$Kernel" "symbol" "[I" "ProofServerModel" (List.mem_of_getElem? (i := 1797) (by decide +kernel))))
  have hlk_634 := (va_Nw.use (A := ([.ref r0, .ref r1, .int a2, .int a3] : List Value).toArray) rfl (hG.2.1 RX14 634 "ProofServerModel$Kernel" "lines" "I" "ProofServerModel" (List.mem_of_getElem? (i := 1840) (by decide +kernel))))
  have hlk_677 := (va_Nw.use (A := ([.ref r0, .ref r1, .int a2, .int a3] : List Value).toArray) rfl (hG.2.1 RX14 677 "ProofServerModel$Kernel" "fact" "[I" "ProofServerModel" (List.mem_of_getElem? (i := 1806) (by decide +kernel))))
  have hlk_683 := (va_Nw.use (A := ([.ref r0, .ref r1, .int a2, .int a3] : List Value).toArray) rfl (hG.2.1 RX14 683 "ProofServerModel$Kernel" "arity" "[I" "ProofServerModel" (List.mem_of_getElem? (i := 1800) (by decide +kernel))))
  obtain ⟨str307, rstr307, hstr3070⟩ := hG.str (o := RX14) (k := 307) (tx := "null") (List.mem_of_getElem? (i := 2366) (by decide +kernel))
  have hstr307 : jStr base str307 4 s s.heap := hstr3070
  have hrg_a2 := jb_rng a2
  have hrg_a3 := jb_rng a3
  refine lv_iconst (v := (-1)) hx hb dX14_statementOf_0 (by decide) ?_
  refine lv_istore (lv' := [(4, .int (-1)), (0, .ref r0), (1, .ref r1), (2, .int a2), (3, .int a3)]) hx hb dX14_statementOf_1 hl (by decide) rfl (fun ls hl => ?_)
  refine lv_iconst (v := (-1)) hx hb dX14_statementOf_3 (by decide) ?_
  refine lv_istore (lv' := [(5, .int (-1)), (4, .int (-1)), (0, .ref r0), (1, .ref r1), (2, .int a2), (3, .int a3)]) hx hb dX14_statementOf_4 hl (by decide) rfl (fun ls hl => ?_)
  refine lv_iconst (v := 0) hx hb dX14_statementOf_6 (by decide) ?_
  refine lv_istore (lv' := [(6, .int 0), (5, .int (-1)), (4, .int (-1)), (0, .ref r0), (1, .ref r1), (2, .int a2), (3, .int a3)]) hx hb dX14_statementOf_7 hl (by decide) rfl (fun ls hl => ?_)
  have L9 : ∀ (N : Nat) (v4_1 : Int32) (v6_1 : Int32) (H_1 : Heap) (locs_1 : List Loc), jSt (dC, dI) B base G0 G0 EX14_statementOfP s.heap 0 0 [(r0, 16, 58, .ref kr), (kr, 15, 15, .int pf), (kr, 15, 11, .int py), (kr, 15, 17, .ref zf), (kr, 15, 0, .ref zs), (kr, 15, 1, .ref zn), (kr, 15, 2, .ref za), (kr, 15, 3, .ref zb), (kr, 15, 4, .ref zc), (kr, 15, 14, .ref zy)] [(zf, 160, 16, ca 1, ff), (zs, 150, 120000, ca 1, C.s), (zn, 151, 120000, ca 1, C.n), (za, 152, 120000, ca 1, C.a), (zb, 153, 120000, ca 1, C.b), (zc, 154, 120000, ca 1, C.c), (zy, 165, 16, ca 1, C.y)] [] H_1 locs_1 → (0 ≤ v6_1.toInt ∧ v6_1.toInt ≤ pf.toInt ∧ -1 ≤ v4_1.toInt ∧ v4_1.toInt < pf.toInt) → (pf.toInt - v6_1.toInt : Int) < N → ∀ ls : Array Slot, lv_has ls 7 [(0, .ref r0), (1, .ref r1), (2, .int a2), (3, .int a3), (4, .int v4_1), (5, .int (-1)), (6, .int v6_1)] → W p l e R s m ([.ref r0, .ref r1, .int a2, .int a3] : List Value).toArray below meth c H_1 locs_1 0 0 Q (F0 m 9 ls []) := by
    intro N
    induction N with
    | zero => intro v4_1 v6_1 H_1 locs_1 hh_1  hi_1 hm; exact absurd hm (by omega)
    | succ N L9 =>
      intro v4_1 v6_1 H_1 locs_1 hh_1  hi_1 hm_1 ls hl
      obtain ⟨hi_1_0, hi_1_1, hi_1_2, hi_1_3⟩ := hi_1
      refine lv_iload hx hb dX14_statementOf_9 (lv_at hl 6 rfl) ?_
      refine lv_aload_n hx hb dX14_statementOf_11 rfl (lv_at hl 0 rfl) ?_
      refine j7_read hx hb hown hK (C := RX14) (T := TX14) (N := 74) rfl hly_16_58 hlk_122 (hh_1.at 0 rfl) dX14_statementOf_12 ?_
      refine j7_readN hx hb hown hK (C := RX13) (T := TX13) (N := 50) rfl hly_15_15 hlk_661 (hh_1.at 1 rfl) dX14_statementOf_15 ?_
      refine lv_icmp_ge (tgt := 51) hx hb dX14_statementOf_18 (by decide) (fun c_2 => ?_) (fun c_2 => ?_)
      · skip
        have c_2' : v6_1.toInt ≥ pf.toInt := jb_ge (rfl) (rfl) c_2
        refine lv_iconst (v := 0) hx hb dX14_statementOf_51 (by decide) ?_
        refine lv_istore (lv' := [(6, .int 0), (0, .ref r0), (1, .ref r1), (2, .int a2), (3, .int a3), (4, .int v4_1), (5, .int (-1))]) hx hb dX14_statementOf_52 hl (by decide) rfl (fun ls hl => ?_)
        have L54 : ∀ (N : Nat) (v5_3 : Int32) (v6_3 : Int32) (H_3 : Heap) (locs_3 : List Loc), jSt (dC, dI) B base G0 G0 EX14_statementOfP s.heap 0 0 [(r0, 16, 58, .ref kr), (kr, 15, 15, .int pf), (kr, 15, 11, .int py), (kr, 15, 17, .ref zf), (kr, 15, 0, .ref zs), (kr, 15, 1, .ref zn), (kr, 15, 2, .ref za), (kr, 15, 3, .ref zb), (kr, 15, 4, .ref zc), (kr, 15, 14, .ref zy)] [(zf, 160, 16, ca 1, ff), (zs, 150, 120000, ca 1, C.s), (zn, 151, 120000, ca 1, C.n), (za, 152, 120000, ca 1, C.a), (zb, 153, 120000, ca 1, C.b), (zc, 154, 120000, ca 1, C.c), (zy, 165, 16, ca 1, C.y)] [] H_3 locs_3 → (0 ≤ v6_3.toInt ∧ v6_3.toInt ≤ py.toInt ∧ -1 ≤ v5_3.toInt ∧ v5_3.toInt < py.toInt) → (py.toInt - v6_3.toInt : Int) < N → ∀ ls : Array Slot, lv_has ls 7 [(0, .ref r0), (1, .ref r1), (2, .int a2), (3, .int a3), (4, .int v4_1), (5, .int v5_3), (6, .int v6_3)] → W p l e R s m ([.ref r0, .ref r1, .int a2, .int a3] : List Value).toArray below meth c H_3 locs_3 0 0 Q (F0 m 54 ls []) := by
          intro N
          induction N with
          | zero => intro v5_3 v6_3 H_3 locs_3 hh_3  hi_3 hm; exact absurd hm (by omega)
          | succ N L54 =>
            intro v5_3 v6_3 H_3 locs_3 hh_3  hi_3 hm_3 ls hl
            obtain ⟨hi_3_0, hi_3_1, hi_3_2, hi_3_3⟩ := hi_3
            refine lv_iload hx hb dX14_statementOf_54 (lv_at hl 6 rfl) ?_
            refine lv_aload_n hx hb dX14_statementOf_56 rfl (lv_at hl 0 rfl) ?_
            refine j7_read hx hb hown hK (C := RX14) (T := TX14) (N := 74) rfl hly_16_58 hlk_122 (hh_3.at 0 rfl) dX14_statementOf_57 ?_
            refine j7_readN hx hb hown hK (C := RX13) (T := TX13) (N := 50) rfl hly_15_11 hlk_671 (hh_3.at 2 rfl) dX14_statementOf_60 ?_
            refine lv_icmp_ge (tgt := 96) hx hb dX14_statementOf_63 (by decide) (fun c_4 => ?_) (fun c_4 => ?_)
            · skip
              have c_4' : v6_3.toInt ≥ py.toInt := jb_ge (rfl) (rfl) c_4
              refine lv_iload hx hb dX14_statementOf_96 (lv_at hl 4 rfl) ?_
              refine lv_if_lt (tgt := 134) hx hb dX14_statementOf_98 (by decide) (fun c_5 => ?_) (fun c_5 => ?_)
              · skip
                have c_5' : v4_1.toInt < 0 := jb_lt (rfl) ((by decide)) c_5
                refine lv_iload hx hb dX14_statementOf_134 (lv_at hl 5 rfl) ?_
                refine lv_if_lt (tgt := 156) hx hb dX14_statementOf_136 (by decide) (fun c_6 => ?_) (fun c_6 => ?_)
                · skip
                  have c_6' : v5_3.toInt < 0 := jb_lt (rfl) ((by decide)) c_6
                  refine lv_aload_n hx hb dX14_statementOf_156 rfl (lv_at hl 0 rfl) ?_
                  refine j_ldcSw hx hb hown rstr307 dX14_statementOf_157 ?_
                  obtain ⟨v_9, hv_9, hh_10⟩ := hh_3.pin (C := RX14) (T := TX14) (N := 74) hB16 rfl (by decide) hg_r0 (i := 6) (by decide) rfl
                  obtain ⟨framed_11, rfl, hloframed_11, hhiframed_11⟩ := hv_9
                  refine va_callv (A0 := jA base) (H0 := s.heap) (va_runV (As := [.ref str307]) (rest := []) ⟨hx, hb, hml, hown, hts⟩ (uX14_word l dC dI ca base B hB hAp hB16 hB101 G0 H_3 r0 str307 4 framed_11) (cwV 1 hts (jgV (jWr_53 _ (List.mem_of_getElem? (i := 22) rfl)) (jWr_53 _ (List.mem_of_getElem? (i := 23) rfl)) (jWr_54 _ (List.mem_of_getElem? (i := 0) rfl)) (jWr_1 _ (List.mem_of_getElem? (i := 5) rfl)) (jWr_54 _ (List.mem_of_getElem? (i := 1) rfl))) rfl rfl rfl (by decide +kernel) ⟨by rw [← hR]; exact Nat.le_of_ble_eq_true rfl, by rw [← hR]; exact Nat.le_of_ble_eq_true rfl⟩) ⟨fun a U g mk q => by obtain ⟨q0, q1, q2, qK, q10, q11, q12, q13⟩ := q; exact ⟨q0, q1, q2, jG.calling g mk a qK, (q10.moved (Vm.Alike.refl U.vm)), q11, q12, q13⟩, hh_10.recv (C := RX14) (T := TX14) (N := 74) hB16 rfl (by decide) hg_r0 hK, fun U hU hW => ⟨rfl, hU, hh_10.2.1, hG.step hW hU hh_10.1, (hstr307.moved hW.alike).kept hh_10.1.2.1, hg_r0, (hh_10.2.2.1.sub (L1 := [(r0, 16, 6, .int framed_11)]) [0] rfl), by first | omega | (refine ⟨?_, ?_, ?_⟩ <;> (first | omega | rfl | assumption | decide | exact Or.inl rfl | exact Or.inr rfl | (simp only; omega)))⟩⟩ rfl rfl hl.1 rfl (lv_room (Nat.le_of_ble_eq_true rfl)) dX14_statementOf_160 ⟨Nat.zero_le _, Nat.zero_le _⟩) hh_10.1 (fun q _ h => h) (fun q h => h) (fun u_7 t_7 H_7 locs_7 ht_7 hvm_7 hr_8 hb_7 hz_7 hk_7 hS_7 => ?_)
                  obtain ⟨qf_7, rfl⟩ : ∃ z, z = u_7 := ⟨_, rfl⟩
                  rw [ht_7] at hb_7
                  obtain ⟨hb_71, hb_72, hb_73, hb_74, hb_75⟩ := hb_7
                  have hh_7 : jSt (dC, dI) B base G0 G0 EX14_statementOfP s.heap 0 0 [(r0, 16, 6, .int qf_7), (r0, 16, 58, .ref kr), (kr, 15, 15, .int pf), (kr, 15, 11, .int py), (kr, 15, 17, .ref zf), (kr, 15, 0, .ref zs), (kr, 15, 1, .ref zn), (kr, 15, 2, .ref za), (kr, 15, 3, .ref zb), (kr, 15, 4, .ref zc), (kr, 15, 14, .ref zy)] [(zf, 160, 16, ca 1, ff), (zs, 150, 120000, ca 1, C.s), (zn, 151, 120000, ca 1, C.n), (za, 152, 120000, ca 1, C.a), (zb, 153, 120000, ca 1, C.b), (zc, 154, 120000, ca 1, C.c), (zy, 165, 16, ca 1, C.y)] [] H_7 locs_7 := ((hh_10.call hb_71 hb_72 hb_73 hb_74 hS_7 rfl (L1 := [(r0, 16, 58, .ref kr), (kr, 15, 15, .int pf), (kr, 15, 11, .int py), (kr, 15, 17, .ref zf), (kr, 15, 0, .ref zs), (kr, 15, 1, .ref zn), (kr, 15, 2, .ref za), (kr, 15, 3, .ref zb), (kr, 15, 4, .ref zc), (kr, 15, 14, .ref zy)]) [1, 2, 3, 4, 5, 6, 7, 8, 9, 10] rfl rfl (M1 := [(zf, 160, 16, ca 1, ff), (zs, 150, 120000, ca 1, C.s), (zn, 151, 120000, ca 1, C.n), (za, 152, 120000, ca 1, C.a), (zb, 153, 120000, ca 1, C.b), (zc, 154, 120000, ca 1, C.c), (zy, 165, 16, ca 1, C.y)]) [0, 1, 2, 3, 4, 5, 6] rfl rfl (I1 := []) [] rfl rfl).more hb_75)
                  clear hh_10 ht_7 hvm_7 hz_7 hk_7 hS_7 hb_71 hb_72 hb_73 hb_74 hb_75
                  obtain ⟨hr_8_0, hr_8_1⟩ := hr_8
                  rw [hQ]
                  exact W.vret hx hb hr (fun t ht hW => ⟨⟨(), rfl, trivial, hh_7.rt (M1 := []) [] rfl ht⟩, by rw [ht]; try exact hh_7.1.1, fun q h9 hq => by rw [ht]; try exact hh_7.1.2.1 q h9 hq⟩) hh_7.1.2.2 dX14_statementOf_163
                · skip
                  have c_6' : v5_3.toInt ≥ 0 := jb_lt_n (rfl) ((by decide)) c_6
                  refine lv_aload_n hx hb dX14_statementOf_139 rfl (lv_at hl 0 rfl) ?_
                  refine lv_aload_n hx hb dX14_statementOf_140 rfl (lv_at hl 0 rfl) ?_
                  refine j7_read hx hb hown hK (C := RX14) (T := TX14) (N := 74) rfl hly_16_58 hlk_122 (hh_3.at 0 rfl) dX14_statementOf_141 ?_
                  refine j7_readN hx hb hown hK (C := RX13) (T := TX13) (N := 50) rfl hly_15_14 hlk_683 (hh_3.at 9 rfl) dX14_statementOf_144 ?_
                  refine lv_iload hx hb dX14_statementOf_147 (lv_at hl 5 rfl) ?_
                  refine j7_ialdM hx hb hK hh_3 hB165 1 rfl (by decide) hg_zy (x := v5_3.toInt) (rfl) (by omega) (j := 6) rfl dX14_statementOf_149 (fun z_12 ez_12 (hz_12 : 0 ≤ z_12.toInt ∧ z_12.toInt ≤ 3) => ?_)
                  have hqz_12 : z_12.toInt = jSo C.y (v5_3.toInt) := by unfold jSo; rw [ez_12]
                  obtain ⟨v_15, hv_15, hh_16⟩ := hh_3.pin (C := RX14) (T := TX14) (N := 74) hB16 rfl (by decide) hg_r0 (i := 6) (by decide) rfl
                  obtain ⟨framed_17, rfl, hloframed_17, hhiframed_17⟩ := hv_15
                  refine va_callv (A0 := jA base) (H0 := s.heap) (va_runV (As := [.int z_12]) (rest := []) ⟨hx, hb, hml, hown, hts⟩ (uX14_number l dC dI ca base B hB hAp hB16 hB101 G0 H_3 r0 z_12 framed_17) (cwV 1 hts (jgV (jWr_54 _ (List.mem_of_getElem? (i := 18) rfl)) (jWr_54 _ (List.mem_of_getElem? (i := 19) rfl)) (jWr_54 _ (List.mem_of_getElem? (i := 20) rfl)) (jWr_1 _ (List.mem_of_getElem? (i := 5) rfl)) (jWr_54 _ (List.mem_of_getElem? (i := 21) rfl))) rfl rfl rfl (by decide +kernel) ⟨by rw [← hR]; exact Nat.le_of_ble_eq_true rfl, by rw [← hR]; exact Nat.le_of_ble_eq_true rfl⟩) ⟨fun a U g mk q => by obtain ⟨q0, q1, q2, qK, q10, q11, q12⟩ := q; exact ⟨q0, q1, q2, jG.calling g mk a qK, q10, q11, q12⟩, hh_16.recv (C := RX14) (T := TX14) (N := 74) hB16 rfl (by decide) hg_r0 hK, fun U hU hW => ⟨rfl, hU, hh_16.2.1, hG.step hW hU hh_16.1, hg_r0, (hh_16.2.2.1.sub (L1 := [(r0, 16, 6, .int framed_17)]) [0] rfl), by first | omega | (refine ⟨?_, ?_⟩ <;> (first | omega | rfl | assumption | decide | exact Or.inl rfl | exact Or.inr rfl | (simp only; omega)))⟩⟩ rfl rfl hl.1 rfl (lv_room (Nat.le_of_ble_eq_true rfl)) dX14_statementOf_150 ⟨Nat.zero_le _, Nat.zero_le _⟩) hh_16.1 (fun q _ h => h) (fun q h => h) (fun u_13 t_13 H_13 locs_13 ht_13 hvm_13 hr_14 hb_13 hz_13 hk_13 hS_13 => ?_)
                  obtain ⟨qf_13, rfl⟩ : ∃ z, z = u_13 := ⟨_, rfl⟩
                  rw [ht_13] at hb_13
                  obtain ⟨hb_131, hb_132, hb_133, hb_134, hb_135⟩ := hb_13
                  have hh_13 : jSt (dC, dI) B base G0 G0 EX14_statementOfP s.heap 0 0 [(r0, 16, 6, .int qf_13), (r0, 16, 58, .ref kr), (kr, 15, 15, .int pf), (kr, 15, 11, .int py), (kr, 15, 17, .ref zf), (kr, 15, 0, .ref zs), (kr, 15, 1, .ref zn), (kr, 15, 2, .ref za), (kr, 15, 3, .ref zb), (kr, 15, 4, .ref zc), (kr, 15, 14, .ref zy)] [(zf, 160, 16, ca 1, ff), (zs, 150, 120000, ca 1, C.s), (zn, 151, 120000, ca 1, C.n), (za, 152, 120000, ca 1, C.a), (zb, 153, 120000, ca 1, C.b), (zc, 154, 120000, ca 1, C.c), (zy, 165, 16, ca 1, C.y)] [] H_13 locs_13 := ((hh_16.call hb_131 hb_132 hb_133 hb_134 hS_13 rfl (L1 := [(r0, 16, 58, .ref kr), (kr, 15, 15, .int pf), (kr, 15, 11, .int py), (kr, 15, 17, .ref zf), (kr, 15, 0, .ref zs), (kr, 15, 1, .ref zn), (kr, 15, 2, .ref za), (kr, 15, 3, .ref zb), (kr, 15, 4, .ref zc), (kr, 15, 14, .ref zy)]) [1, 2, 3, 4, 5, 6, 7, 8, 9, 10] rfl rfl (M1 := [(zf, 160, 16, ca 1, ff), (zs, 150, 120000, ca 1, C.s), (zn, 151, 120000, ca 1, C.n), (za, 152, 120000, ca 1, C.a), (zb, 153, 120000, ca 1, C.b), (zc, 154, 120000, ca 1, C.c), (zy, 165, 16, ca 1, C.y)]) [0, 1, 2, 3, 4, 5, 6] rfl rfl (I1 := []) [] rfl rfl).more hb_135)
                  clear hh_16 ht_13 hvm_13 hz_13 hk_13 hS_13 hb_131 hb_132 hb_133 hb_134 hb_135
                  obtain ⟨hr_14_0, hr_14_1⟩ := hr_14
                  refine lv_goto (tgt := 163) hx hb dX14_statementOf_153 (by decide) ?_
                  rw [hQ]
                  exact W.vret hx hb hr (fun t ht hW => ⟨⟨(), rfl, trivial, hh_13.rt (M1 := []) [] rfl ht⟩, by rw [ht]; try exact hh_13.1.1, fun q h9 hq => by rw [ht]; try exact hh_13.1.2.1 q h9 hq⟩) hh_13.1.2.2 dX14_statementOf_163
              · skip
                have c_5' : v4_1.toInt ≥ 0 := jb_lt_n (rfl) ((by decide)) c_5
                refine lv_aload_n hx hb dX14_statementOf_101 rfl (lv_at hl 0 rfl) ?_
                refine j7_read hx hb hown hK (C := RX14) (T := TX14) (N := 74) rfl hly_16_58 hlk_122 (hh_3.at 0 rfl) dX14_statementOf_102 ?_
                refine lv_iconst (v := 0) hx hb dX14_statementOf_105 (by decide) ?_
                refine j7_putN hx hb hown hK hh_3 hB hAp hB15 (C := RX13) (T := TX13) (N := 50) rfl (by decide) hg_kr (i := 46) (by decide) hly_15_46 rfl hlk_634 rfl (ty := .int) (v := .int 0) (by decide +kernel) rfl rfl (⟨_, rfl, by omega, by omega⟩) rfl (L1 := [(r0, 16, 58, .ref kr), (kr, 15, 15, .int pf), (kr, 15, 11, .int py), (kr, 15, 17, .ref zf), (kr, 15, 0, .ref zs), (kr, 15, 1, .ref zn), (kr, 15, 2, .ref za), (kr, 15, 3, .ref zb), (kr, 15, 4, .ref zc), (kr, 15, 14, .ref zy)]) [0, 1, 2, 3, 4, 5, 6, 7, 8, 9] rfl rfl rfl dX14_statementOf_106 (fun H_18 locs_18 hh_18 => ?_)
                clear hh_3
                refine lv_aload_n hx hb dX14_statementOf_109 rfl (lv_at hl 0 rfl) ?_
                refine j7_read hx hb hown hK (C := RX14) (T := TX14) (N := 74) rfl hly_16_58 hlk_122 (hh_18.at 1 rfl) dX14_statementOf_110 ?_
                refine lv_aload_n hx hb dX14_statementOf_113 rfl (lv_at hl 0 rfl) ?_
                refine j7_read hx hb hown hK (C := RX14) (T := TX14) (N := 74) rfl hly_16_58 hlk_122 (hh_18.at 1 rfl) dX14_statementOf_114 ?_
                refine j7_readN hx hb hown hK (C := RX13) (T := TX13) (N := 50) rfl hly_15_17 hlk_677 (hh_18.at 4 rfl) dX14_statementOf_117 ?_
                refine lv_iload hx hb dX14_statementOf_120 (lv_at hl 4 rfl) ?_
                refine j7_ialdM hx hb hK hh_18 hB160 1 rfl (by decide) hg_zf (x := v4_1.toInt) (rfl) (by omega) (j := 0) rfl dX14_statementOf_122 (fun z_19 ez_19 (hz_19 : 0 ≤ z_19.toInt ∧ z_19.toInt ≤ 119999) => ?_)
                have hqz_19 : z_19.toInt = jSo ff (v4_1.toInt) := by unfold jSo; rw [ez_19]
                refine va_callv (A0 := jA base) (H0 := s.heap) (va_runV (As := [.int z_19]) (rest := []) ⟨hx, hb, hml, hown, hts⟩ (uX13_printFormula l dC dI ca base B hB hAp hB15 hB101 hB150 hB151 hB152 hB153 hB154 hB155 hB156 hB163 hB164 hB165 hB166 G0 H_18 kr z_19 zs zn za zb zc zy C) (cwV 1 hts (jgV (jWr_72 _ (List.mem_of_getElem? (i := 17) rfl)) (jWr_71 _ (List.mem_of_getElem? (i := 1) rfl)) (jWr_71 _ (List.mem_of_getElem? (i := 2) rfl)) (jWr_12 _ (List.mem_of_getElem? (i := 12) rfl)) (jWr_71 _ (List.mem_of_getElem? (i := 3) rfl))) rfl rfl rfl (by decide +kernel) ⟨by rw [← hR]; exact Nat.le_of_ble_eq_true rfl, by rw [← hR]; exact Nat.le_of_ble_eq_true rfl⟩) ⟨fun a U g mk q => by obtain ⟨q0, q1, q2, qK, q10, q11, q12, q13, q14, q15, q16, q17, q18, q19⟩ := q; exact ⟨q0, q1, q2, jG.calling g mk a qK, q10, q11, q12, q13, q14, q15, q16, q17, q18, q19⟩, hh_18.recv (C := RX13) (T := TX13) (N := 50) hB15 rfl (by decide) hg_kr hK, fun U hU hW => ⟨rfl, hU, hh_18.2.1, hG.step hW hU hh_18.1, hg_kr, hg_zs, hg_zn, hg_za, hg_zb, hg_zc, hg_zy, (hh_18.2.2.1.sub (L1 := [(kr, 15, 0, .ref zs), (kr, 15, 1, .ref zn), (kr, 15, 2, .ref za), (kr, 15, 3, .ref zb), (kr, 15, 4, .ref zc), (kr, 15, 14, .ref zy)]) [5, 6, 7, 8, 9, 10] rfl), (hh_18.2.2.2.2.2.2.2.1.sub (L1 := [(zs, 150, 120000, ca 1, C.s), (zn, 151, 120000, ca 1, C.n), (za, 152, 120000, ca 1, C.a), (zb, 153, 120000, ca 1, C.b), (zc, 154, 120000, ca 1, C.c), (zy, 165, 16, ca 1, C.y)]) [1, 2, 3, 4, 5, 6] rfl), by first | assumption | (rw [hqz_19]; exact (hp0 _ (by omega) (by omega)).1.wide (by omega) (by omega)) | omega⟩⟩ rfl rfl hl.1 rfl (lv_room (Nat.le_of_ble_eq_true rfl)) dX14_statementOf_123 ⟨Nat.zero_le _, Nat.zero_le _⟩) hh_18.1 (fun q _ h => h) (fun q h => h) (fun u_20 t_20 H_20 locs_20 ht_20 hvm_20 hr_21 hb_20 hz_20 hk_20 hS_20 => ?_)
                rw [ht_20] at hb_20
                obtain ⟨hb_201, hb_202, hb_203, hb_204, hb_205⟩ := hb_20
                have hh_20 : jSt (dC, dI) B base G0 G0 EX14_statementOfP s.heap 0 0 [(r0, 16, 58, .ref kr), (kr, 15, 15, .int pf), (kr, 15, 11, .int py), (kr, 15, 17, .ref zf), (kr, 15, 0, .ref zs), (kr, 15, 1, .ref zn), (kr, 15, 2, .ref za), (kr, 15, 3, .ref zb), (kr, 15, 4, .ref zc), (kr, 15, 14, .ref zy)] [(zf, 160, 16, ca 1, ff), (zs, 150, 120000, ca 1, C.s), (zn, 151, 120000, ca 1, C.n), (za, 152, 120000, ca 1, C.a), (zb, 153, 120000, ca 1, C.b), (zc, 154, 120000, ca 1, C.c), (zy, 165, 16, ca 1, C.y)] [] H_20 locs_20 := ((hh_18.call hb_201 hb_202 hb_203 hb_204 hS_20 rfl (L1 := [(r0, 16, 58, .ref kr), (kr, 15, 15, .int pf), (kr, 15, 11, .int py), (kr, 15, 17, .ref zf), (kr, 15, 0, .ref zs), (kr, 15, 1, .ref zn), (kr, 15, 2, .ref za), (kr, 15, 3, .ref zb), (kr, 15, 4, .ref zc), (kr, 15, 14, .ref zy)]) [1, 2, 3, 4, 5, 6, 7, 8, 9, 10] rfl rfl (M1 := [(zf, 160, 16, ca 1, ff), (zs, 150, 120000, ca 1, C.s), (zn, 151, 120000, ca 1, C.n), (za, 152, 120000, ca 1, C.a), (zb, 153, 120000, ca 1, C.b), (zc, 154, 120000, ca 1, C.c), (zy, 165, 16, ca 1, C.y)]) [0, 1, 2, 3, 4, 5, 6] rfl rfl (I1 := []) [] rfl rfl).more hb_205)
                clear hh_18 ht_20 hvm_20 hz_20 hk_20 hS_20 hb_201 hb_202 hb_203 hb_204 hb_205
                refine lv_aload_n hx hb dX14_statementOf_126 rfl (lv_at hl 0 rfl) ?_
                refine lv_iconst (v := 0) hx hb dX14_statementOf_127 (by decide) ?_
                refine va_callv (A0 := jA base) (H0 := s.heap) (va_runV (As := [.int 0]) (rest := []) ⟨hx, hb, hml, hown, hts⟩ (uX14_putLine l dC dI ca base B hB hAp hB15 hB16 hB101 G0 H_20 r0 0) (cwV 1 hts (jgV (jWr_70 _ (List.mem_of_getElem? (i := 11) rfl)) (jWr_70 _ (List.mem_of_getElem? (i := 12) rfl)) (jWr_70 _ (List.mem_of_getElem? (i := 13) rfl)) (jWr_1 _ (List.mem_of_getElem? (i := 5) rfl)) (jWr_70 _ (List.mem_of_getElem? (i := 14) rfl))) rfl rfl rfl (by decide +kernel) ⟨by rw [← hR]; exact Nat.le_of_ble_eq_true rfl, by rw [← hR]; exact Nat.le_of_ble_eq_true rfl⟩) ⟨fun a U g mk q => by obtain ⟨q0, q1, q2, qK, q10, q11, q12⟩ := q; exact ⟨q0, q1, q2, jG.calling g mk a qK, q10, q11, q12⟩, hh_20.recv (C := RX14) (T := TX14) (N := 74) hB16 rfl (by decide) hg_r0 hK, fun U hU hW => ⟨rfl, hU, hh_20.2.1, hG.step hW hU hh_20.1, hg_r0, jP.nil, by first | omega | (refine ⟨?_, ?_⟩ <;> (first | omega | rfl | assumption | decide | exact Or.inl rfl | exact Or.inr rfl | (simp only; omega)))⟩⟩ rfl rfl hl.1 rfl (lv_room (Nat.le_of_ble_eq_true rfl)) dX14_statementOf_128 ⟨Nat.zero_le _, Nat.zero_le _⟩) hh_20.1 (fun q _ h => h) (fun q h => h) (fun u_22 t_22 H_22 locs_22 ht_22 hvm_22 hr_23 hb_22 hz_22 hk_22 hS_22 => ?_)
                rw [ht_22] at hb_22
                obtain ⟨hb_221, hb_222, hb_223, hb_224, hb_225⟩ := hb_22
                have hh_22 : jSt (dC, dI) B base G0 G0 EX14_statementOfP s.heap 0 0 [(r0, 16, 58, .ref kr), (kr, 15, 15, .int pf), (kr, 15, 11, .int py), (kr, 15, 17, .ref zf), (kr, 15, 0, .ref zs), (kr, 15, 1, .ref zn), (kr, 15, 2, .ref za), (kr, 15, 3, .ref zb), (kr, 15, 4, .ref zc), (kr, 15, 14, .ref zy)] [(zf, 160, 16, ca 1, ff), (zs, 150, 120000, ca 1, C.s), (zn, 151, 120000, ca 1, C.n), (za, 152, 120000, ca 1, C.a), (zb, 153, 120000, ca 1, C.b), (zc, 154, 120000, ca 1, C.c), (zy, 165, 16, ca 1, C.y)] [] H_22 locs_22 := ((hh_20.call hb_221 hb_222 hb_223 hb_224 hS_22 rfl (L1 := [(r0, 16, 58, .ref kr), (kr, 15, 15, .int pf), (kr, 15, 11, .int py), (kr, 15, 17, .ref zf), (kr, 15, 0, .ref zs), (kr, 15, 1, .ref zn), (kr, 15, 2, .ref za), (kr, 15, 3, .ref zb), (kr, 15, 4, .ref zc), (kr, 15, 14, .ref zy)]) [0, 1, 2, 3, 4, 5, 6, 7, 8, 9] rfl rfl (M1 := [(zf, 160, 16, ca 1, ff), (zs, 150, 120000, ca 1, C.s), (zn, 151, 120000, ca 1, C.n), (za, 152, 120000, ca 1, C.a), (zb, 153, 120000, ca 1, C.b), (zc, 154, 120000, ca 1, C.c), (zy, 165, 16, ca 1, C.y)]) [0, 1, 2, 3, 4, 5, 6] rfl rfl (I1 := []) [] rfl rfl).more hb_225)
                clear hh_20 ht_22 hvm_22 hz_22 hk_22 hS_22 hb_221 hb_222 hb_223 hb_224 hb_225
                refine lv_goto (tgt := 163) hx hb dX14_statementOf_131 (by decide) ?_
                rw [hQ]
                exact W.vret hx hb hr (fun t ht hW => ⟨⟨(), rfl, trivial, hh_22.rt (M1 := []) [] rfl ht⟩, by rw [ht]; try exact hh_22.1.1, fun q h9 hq => by rw [ht]; try exact hh_22.1.2.1 q h9 hq⟩) hh_22.1.2.2 dX14_statementOf_163
            · skip
              have c_4' : v6_3.toInt < py.toInt := jb_ge_n (rfl) (rfl) c_4
              refine lv_aload_n hx hb dX14_statementOf_66 rfl (lv_at hl 0 rfl) ?_
              refine lv_aload_n hx hb dX14_statementOf_67 rfl (lv_at hl 0 rfl) ?_
              refine j7_read hx hb hown hK (C := RX14) (T := TX14) (N := 74) rfl hly_16_58 hlk_122 (hh_3.at 0 rfl) dX14_statementOf_68 ?_
              obtain ⟨v_24, hv_24, hh_25⟩ := hh_3.pin (C := RX13) (T := TX13) (N := 50) hB15 rfl (by decide) hg_kr (i := 12) (by decide) rfl
              clear hh_3
              obtain ⟨symbol_26, rfl, hg_symbol_26⟩ := hv_24
              refine j7_readN hx hb hown hK (C := RX13) (T := TX13) (N := 50) rfl hly_15_12 hlk_674 (hh_25.at 0 rfl) dX14_statementOf_71 ?_
              refine lv_iload hx hb dX14_statementOf_74 (lv_at hl 6 rfl) ?_
              refine j7_iald hx hb hK hh_25 hB163 1 rfl (by decide) hg_symbol_26 (x := v6_3.toInt) (rfl) (by omega) dX14_statementOf_76 (fun z_27 (hz_27 : 0 ≤ z_27.toInt ∧ z_27.toInt ≤ 1599) => ?_)
              refine lv_aload_n hx hb dX14_statementOf_77 rfl (lv_at hl 1 rfl) ?_
              refine lv_iload_n hx hb dX14_statementOf_78 rfl (lv_at hl 2 rfl) ?_
              refine lv_iload_n hx hb dX14_statementOf_79 rfl (lv_at hl 3 rfl) ?_
              refine va_calli (A0 := jA base) (H0 := s.heap) (va_runV (As := [.int z_27, .ref r1, .int a2, .int a3]) (rest := []) ⟨hx, hb, hml, hown, hts⟩ (uX14_isNamedP l dC dI ca base B hB hAp hB15 hB16 hB127 hB155 hB156 hB166 G0 H_3 r0 z_27 r1 a2 a3 n1) (cwV 4 hts (jgV (jWr_72 _ (List.mem_of_getElem? (i := 13) rfl)) (jWr_72 _ (List.mem_of_getElem? (i := 14) rfl)) (jWr_72 _ (List.mem_of_getElem? (i := 15) rfl)) (jWr_1 _ (List.mem_of_getElem? (i := 5) rfl)) (jWr_72 _ (List.mem_of_getElem? (i := 16) rfl))) rfl rfl rfl (by decide +kernel) ⟨by rw [← hR]; exact Nat.le_of_ble_eq_true rfl, by rw [← hR]; exact Nat.le_of_ble_eq_true rfl⟩) ⟨fun a U g mk q => by obtain ⟨q0, q1, q2, qK, q10, q11, q12, q13⟩ := q; exact ⟨q0, q1, q2, jG.calling g mk a qK, q10, q11, q12, q13⟩, hh_25.recv (C := RX14) (T := TX14) (N := 74) hB16 rfl (by decide) hg_r0 hK, fun U hU hW => ⟨rfl, hU, hh_25.2.1, hG.step hW hU hh_25.1, hg_r1, hg_r0, jP.nil, by first | omega | (refine ⟨?_, ?_, ?_, ?_, ?_⟩ <;> (first | omega | rfl | assumption | decide | exact Or.inl rfl | exact Or.inr rfl | (simp only; omega)))⟩⟩ rfl rfl hl.1 rfl (lv_room (Nat.le_of_ble_eq_true rfl)) dX14_statementOf_80 ⟨Nat.zero_le _, Nat.zero_le _⟩) hh_25.1 (fun q _ h => h) (fun q h => h) (fun r_29 u_28 t_28 H_28 locs_28 ht_28 hvm_28 hr_29 hb_28 hz_28 hk_28 hS_28 => ?_)
              rw [ht_28] at hb_28
              obtain ⟨hb_281, hb_282, hb_283, hb_284, hb_285⟩ := hb_28
              have hh_28 : jSt (dC, dI) B base G0 G0 EX14_statementOfP s.heap 0 0 [(kr, 15, 12, .ref symbol_26), (r0, 16, 58, .ref kr), (kr, 15, 15, .int pf), (kr, 15, 11, .int py), (kr, 15, 17, .ref zf), (kr, 15, 0, .ref zs), (kr, 15, 1, .ref zn), (kr, 15, 2, .ref za), (kr, 15, 3, .ref zb), (kr, 15, 4, .ref zc), (kr, 15, 14, .ref zy)] [(zf, 160, 16, ca 1, ff), (zs, 150, 120000, ca 1, C.s), (zn, 151, 120000, ca 1, C.n), (za, 152, 120000, ca 1, C.a), (zb, 153, 120000, ca 1, C.b), (zc, 154, 120000, ca 1, C.c), (zy, 165, 16, ca 1, C.y)] [] H_28 locs_28 := ((hh_25.call hb_281 hb_282 hb_283 hb_284 hS_28 rfl (L1 := [(kr, 15, 12, .ref symbol_26), (r0, 16, 58, .ref kr), (kr, 15, 15, .int pf), (kr, 15, 11, .int py), (kr, 15, 17, .ref zf), (kr, 15, 0, .ref zs), (kr, 15, 1, .ref zn), (kr, 15, 2, .ref za), (kr, 15, 3, .ref zb), (kr, 15, 4, .ref zc), (kr, 15, 14, .ref zy)]) [0, 1, 2, 3, 4, 5, 6, 7, 8, 9, 10] rfl rfl (M1 := [(zf, 160, 16, ca 1, ff), (zs, 150, 120000, ca 1, C.s), (zn, 151, 120000, ca 1, C.n), (za, 152, 120000, ca 1, C.a), (zb, 153, 120000, ca 1, C.b), (zc, 154, 120000, ca 1, C.c), (zy, 165, 16, ca 1, C.y)]) [0, 1, 2, 3, 4, 5, 6] rfl rfl (I1 := []) [] rfl rfl).more hb_285)
              clear hh_25 ht_28 hvm_28 hz_28 hk_28 hS_28 hb_281 hb_282 hb_283 hb_284 hb_285
              obtain ⟨hr_29b, hr_29p⟩ := hr_29
              have hr_29' := jb_01 hr_29b
              refine lv_if_eq (tgt := 90) hx hb dX14_statementOf_83 (by decide) (fun c_30 => ?_) (fun c_30 => ?_)
              · skip
                have c_30' : r_29.toInt = 0 := jb_eq (rfl) ((by decide)) c_30
                obtain ⟨z_31, ez_31⟩ : ∃ y : Int32, y = v6_3 + 1 := ⟨_, rfl⟩
                refine lv_iinc (v := z_31) (lv' := [(6, .int z_31), (0, .ref r0), (1, .ref r1), (2, .int a2), (3, .int a3), (4, .int v4_1), (5, .int v5_3)]) hx hb dX14_statementOf_90 hl (k := 6) rfl (by rw [ez_31]; rfl) (by decide) rfl (fun ls hl => ?_)
                have hz_31 : z_31.toInt = v6_3.toInt + 1 := by rw [ez_31]; exact jb_iadd2 (rfl) (by decide) (by omega)
                refine lv_goto (tgt := 54) hx hb dX14_statementOf_93 (by decide) ?_
                exact L54 v5_3 z_31 _ _ (hh_28.sub (L1 := [(r0, 16, 58, .ref kr), (kr, 15, 15, .int pf), (kr, 15, 11, .int py), (kr, 15, 17, .ref zf), (kr, 15, 0, .ref zs), (kr, 15, 1, .ref zn), (kr, 15, 2, .ref za), (kr, 15, 3, .ref zb), (kr, 15, 4, .ref zc), (kr, 15, 14, .ref zy)]) [1, 2, 3, 4, 5, 6, 7, 8, 9, 10] rfl (M1 := [(zf, 160, 16, ca 1, ff), (zs, 150, 120000, ca 1, C.s), (zn, 151, 120000, ca 1, C.n), (za, 152, 120000, ca 1, C.a), (zb, 153, 120000, ca 1, C.b), (zc, 154, 120000, ca 1, C.c), (zy, 165, 16, ca 1, C.y)]) [0, 1, 2, 3, 4, 5, 6] rfl (I1 := []) [] rfl) (by first | omega | (refine ⟨?_, ?_, ?_, ?_⟩ <;> (first | omega | rfl | assumption | decide | exact Or.inl rfl | exact Or.inr rfl | (simp only; omega)))) (by omega) _ (lv_sub hl [1, 2, 3, 4, 5, 6, 0] rfl)
              · skip
                have c_30' : r_29.toInt ≠ 0 := jb_eq_n (rfl) ((by decide)) c_30
                refine lv_iload hx hb dX14_statementOf_86 (lv_at hl 6 rfl) ?_
                refine lv_istore (lv' := [(5, .int v6_3), (0, .ref r0), (1, .ref r1), (2, .int a2), (3, .int a3), (4, .int v4_1), (6, .int v6_3)]) hx hb dX14_statementOf_88 hl (by decide) rfl (fun ls hl => ?_)
                obtain ⟨z_32, ez_32⟩ : ∃ y : Int32, y = v6_3 + 1 := ⟨_, rfl⟩
                refine lv_iinc (v := z_32) (lv' := [(6, .int z_32), (5, .int v6_3), (0, .ref r0), (1, .ref r1), (2, .int a2), (3, .int a3), (4, .int v4_1)]) hx hb dX14_statementOf_90 hl (k := 6) rfl (by rw [ez_32]; rfl) (by decide) rfl (fun ls hl => ?_)
                have hz_32 : z_32.toInt = v6_3.toInt + 1 := by rw [ez_32]; exact jb_iadd2 (rfl) (by decide) (by omega)
                refine lv_goto (tgt := 54) hx hb dX14_statementOf_93 (by decide) ?_
                exact L54 v6_3 z_32 _ _ (hh_28.sub (L1 := [(r0, 16, 58, .ref kr), (kr, 15, 15, .int pf), (kr, 15, 11, .int py), (kr, 15, 17, .ref zf), (kr, 15, 0, .ref zs), (kr, 15, 1, .ref zn), (kr, 15, 2, .ref za), (kr, 15, 3, .ref zb), (kr, 15, 4, .ref zc), (kr, 15, 14, .ref zy)]) [1, 2, 3, 4, 5, 6, 7, 8, 9, 10] rfl (M1 := [(zf, 160, 16, ca 1, ff), (zs, 150, 120000, ca 1, C.s), (zn, 151, 120000, ca 1, C.n), (za, 152, 120000, ca 1, C.a), (zb, 153, 120000, ca 1, C.b), (zc, 154, 120000, ca 1, C.c), (zy, 165, 16, ca 1, C.y)]) [0, 1, 2, 3, 4, 5, 6] rfl (I1 := []) [] rfl) (by first | omega | (refine ⟨?_, ?_, ?_, ?_⟩ <;> (first | omega | rfl | assumption | decide | exact Or.inl rfl | exact Or.inr rfl | (simp only; omega)))) (by omega) _ (lv_sub hl [2, 3, 4, 5, 6, 1, 0] rfl)
        exact L54 (py.toInt - (0 : Int32).toInt : Int).toNat.succ (-1) 0 _ _ hh_1 (by first | omega | (refine ⟨?_, ?_, ?_, ?_⟩ <;> (first | omega | rfl | assumption | decide | exact Or.inl rfl | exact Or.inr rfl | (simp only; omega)))) (by omega) _ (lv_sub hl [1, 2, 3, 4, 5, 6, 0] rfl)
      · skip
        have c_2' : v6_1.toInt < pf.toInt := jb_ge_n (rfl) (rfl) c_2
        refine lv_aload_n hx hb dX14_statementOf_21 rfl (lv_at hl 0 rfl) ?_
        refine lv_aload_n hx hb dX14_statementOf_22 rfl (lv_at hl 0 rfl) ?_
        refine j7_read hx hb hown hK (C := RX14) (T := TX14) (N := 74) rfl hly_16_58 hlk_122 (hh_1.at 0 rfl) dX14_statementOf_23 ?_
        obtain ⟨v_33, hv_33, hh_34⟩ := hh_1.pin (C := RX13) (T := TX13) (N := 50) hB15 rfl (by decide) hg_kr (i := 16) (by decide) rfl
        clear hh_1
        obtain ⟨factName_35, rfl, hg_factName_35⟩ := hv_33
        refine j7_readN hx hb hown hK (C := RX13) (T := TX13) (N := 50) rfl hly_15_16 hlk_664 (hh_34.at 0 rfl) dX14_statementOf_26 ?_
        refine lv_iload hx hb dX14_statementOf_29 (lv_at hl 6 rfl) ?_
        refine j7_iald hx hb hK hh_34 hB163 1 rfl (by decide) hg_factName_35 (x := v6_1.toInt) (rfl) (by omega) dX14_statementOf_31 (fun z_36 (hz_36 : 0 ≤ z_36.toInt ∧ z_36.toInt ≤ 1599) => ?_)
        refine lv_aload_n hx hb dX14_statementOf_32 rfl (lv_at hl 1 rfl) ?_
        refine lv_iload_n hx hb dX14_statementOf_33 rfl (lv_at hl 2 rfl) ?_
        refine lv_iload_n hx hb dX14_statementOf_34 rfl (lv_at hl 3 rfl) ?_
        refine va_calli (A0 := jA base) (H0 := s.heap) (va_runV (As := [.int z_36, .ref r1, .int a2, .int a3]) (rest := []) ⟨hx, hb, hml, hown, hts⟩ (uX14_isNamedP l dC dI ca base B hB hAp hB15 hB16 hB127 hB155 hB156 hB166 G0 H_1 r0 z_36 r1 a2 a3 n1) (cwV 4 hts (jgV (jWr_72 _ (List.mem_of_getElem? (i := 13) rfl)) (jWr_72 _ (List.mem_of_getElem? (i := 14) rfl)) (jWr_72 _ (List.mem_of_getElem? (i := 15) rfl)) (jWr_1 _ (List.mem_of_getElem? (i := 5) rfl)) (jWr_72 _ (List.mem_of_getElem? (i := 16) rfl))) rfl rfl rfl (by decide +kernel) ⟨by rw [← hR]; exact Nat.le_of_ble_eq_true rfl, by rw [← hR]; exact Nat.le_of_ble_eq_true rfl⟩) ⟨fun a U g mk q => by obtain ⟨q0, q1, q2, qK, q10, q11, q12, q13⟩ := q; exact ⟨q0, q1, q2, jG.calling g mk a qK, q10, q11, q12, q13⟩, hh_34.recv (C := RX14) (T := TX14) (N := 74) hB16 rfl (by decide) hg_r0 hK, fun U hU hW => ⟨rfl, hU, hh_34.2.1, hG.step hW hU hh_34.1, hg_r1, hg_r0, jP.nil, by first | omega | (refine ⟨?_, ?_, ?_, ?_, ?_⟩ <;> (first | omega | rfl | assumption | decide | exact Or.inl rfl | exact Or.inr rfl | (simp only; omega)))⟩⟩ rfl rfl hl.1 rfl (lv_room (Nat.le_of_ble_eq_true rfl)) dX14_statementOf_35 ⟨Nat.zero_le _, Nat.zero_le _⟩) hh_34.1 (fun q _ h => h) (fun q h => h) (fun r_38 u_37 t_37 H_37 locs_37 ht_37 hvm_37 hr_38 hb_37 hz_37 hk_37 hS_37 => ?_)
        rw [ht_37] at hb_37
        obtain ⟨hb_371, hb_372, hb_373, hb_374, hb_375⟩ := hb_37
        have hh_37 : jSt (dC, dI) B base G0 G0 EX14_statementOfP s.heap 0 0 [(kr, 15, 16, .ref factName_35), (r0, 16, 58, .ref kr), (kr, 15, 15, .int pf), (kr, 15, 11, .int py), (kr, 15, 17, .ref zf), (kr, 15, 0, .ref zs), (kr, 15, 1, .ref zn), (kr, 15, 2, .ref za), (kr, 15, 3, .ref zb), (kr, 15, 4, .ref zc), (kr, 15, 14, .ref zy)] [(zf, 160, 16, ca 1, ff), (zs, 150, 120000, ca 1, C.s), (zn, 151, 120000, ca 1, C.n), (za, 152, 120000, ca 1, C.a), (zb, 153, 120000, ca 1, C.b), (zc, 154, 120000, ca 1, C.c), (zy, 165, 16, ca 1, C.y)] [] H_37 locs_37 := ((hh_34.call hb_371 hb_372 hb_373 hb_374 hS_37 rfl (L1 := [(kr, 15, 16, .ref factName_35), (r0, 16, 58, .ref kr), (kr, 15, 15, .int pf), (kr, 15, 11, .int py), (kr, 15, 17, .ref zf), (kr, 15, 0, .ref zs), (kr, 15, 1, .ref zn), (kr, 15, 2, .ref za), (kr, 15, 3, .ref zb), (kr, 15, 4, .ref zc), (kr, 15, 14, .ref zy)]) [0, 1, 2, 3, 4, 5, 6, 7, 8, 9, 10] rfl rfl (M1 := [(zf, 160, 16, ca 1, ff), (zs, 150, 120000, ca 1, C.s), (zn, 151, 120000, ca 1, C.n), (za, 152, 120000, ca 1, C.a), (zb, 153, 120000, ca 1, C.b), (zc, 154, 120000, ca 1, C.c), (zy, 165, 16, ca 1, C.y)]) [0, 1, 2, 3, 4, 5, 6] rfl rfl (I1 := []) [] rfl rfl).more hb_375)
        clear hh_34 ht_37 hvm_37 hz_37 hk_37 hS_37 hb_371 hb_372 hb_373 hb_374 hb_375
        obtain ⟨hr_38b, hr_38p⟩ := hr_38
        have hr_38' := jb_01 hr_38b
        refine lv_if_eq (tgt := 45) hx hb dX14_statementOf_38 (by decide) (fun c_39 => ?_) (fun c_39 => ?_)
        · skip
          have c_39' : r_38.toInt = 0 := jb_eq (rfl) ((by decide)) c_39
          obtain ⟨z_40, ez_40⟩ : ∃ y : Int32, y = v6_1 + 1 := ⟨_, rfl⟩
          refine lv_iinc (v := z_40) (lv' := [(6, .int z_40), (0, .ref r0), (1, .ref r1), (2, .int a2), (3, .int a3), (4, .int v4_1), (5, .int (-1))]) hx hb dX14_statementOf_45 hl (k := 6) rfl (by rw [ez_40]; rfl) (by decide) rfl (fun ls hl => ?_)
          have hz_40 : z_40.toInt = v6_1.toInt + 1 := by rw [ez_40]; exact jb_iadd2 (rfl) (by decide) (by omega)
          refine lv_goto (tgt := 9) hx hb dX14_statementOf_48 (by decide) ?_
          exact L9 v4_1 z_40 _ _ (hh_37.sub (L1 := [(r0, 16, 58, .ref kr), (kr, 15, 15, .int pf), (kr, 15, 11, .int py), (kr, 15, 17, .ref zf), (kr, 15, 0, .ref zs), (kr, 15, 1, .ref zn), (kr, 15, 2, .ref za), (kr, 15, 3, .ref zb), (kr, 15, 4, .ref zc), (kr, 15, 14, .ref zy)]) [1, 2, 3, 4, 5, 6, 7, 8, 9, 10] rfl (M1 := [(zf, 160, 16, ca 1, ff), (zs, 150, 120000, ca 1, C.s), (zn, 151, 120000, ca 1, C.n), (za, 152, 120000, ca 1, C.a), (zb, 153, 120000, ca 1, C.b), (zc, 154, 120000, ca 1, C.c), (zy, 165, 16, ca 1, C.y)]) [0, 1, 2, 3, 4, 5, 6] rfl (I1 := []) [] rfl) (by first | omega | (refine ⟨?_, ?_, ?_, ?_⟩ <;> (first | omega | rfl | assumption | decide | exact Or.inl rfl | exact Or.inr rfl | (simp only; omega)))) (by omega) _ (lv_sub hl [1, 2, 3, 4, 5, 6, 0] rfl)
        · skip
          have c_39' : r_38.toInt ≠ 0 := jb_eq_n (rfl) ((by decide)) c_39
          refine lv_iload hx hb dX14_statementOf_41 (lv_at hl 6 rfl) ?_
          refine lv_istore (lv' := [(4, .int v6_1), (0, .ref r0), (1, .ref r1), (2, .int a2), (3, .int a3), (5, .int (-1)), (6, .int v6_1)]) hx hb dX14_statementOf_43 hl (by decide) rfl (fun ls hl => ?_)
          obtain ⟨z_41, ez_41⟩ : ∃ y : Int32, y = v6_1 + 1 := ⟨_, rfl⟩
          refine lv_iinc (v := z_41) (lv' := [(6, .int z_41), (4, .int v6_1), (0, .ref r0), (1, .ref r1), (2, .int a2), (3, .int a3), (5, .int (-1))]) hx hb dX14_statementOf_45 hl (k := 6) rfl (by rw [ez_41]; rfl) (by decide) rfl (fun ls hl => ?_)
          have hz_41 : z_41.toInt = v6_1.toInt + 1 := by rw [ez_41]; exact jb_iadd2 (rfl) (by decide) (by omega)
          refine lv_goto (tgt := 9) hx hb dX14_statementOf_48 (by decide) ?_
          exact L9 v6_1 z_41 _ _ (hh_37.sub (L1 := [(r0, 16, 58, .ref kr), (kr, 15, 15, .int pf), (kr, 15, 11, .int py), (kr, 15, 17, .ref zf), (kr, 15, 0, .ref zs), (kr, 15, 1, .ref zn), (kr, 15, 2, .ref za), (kr, 15, 3, .ref zb), (kr, 15, 4, .ref zc), (kr, 15, 14, .ref zy)]) [1, 2, 3, 4, 5, 6, 7, 8, 9, 10] rfl (M1 := [(zf, 160, 16, ca 1, ff), (zs, 150, 120000, ca 1, C.s), (zn, 151, 120000, ca 1, C.n), (za, 152, 120000, ca 1, C.a), (zb, 153, 120000, ca 1, C.b), (zc, 154, 120000, ca 1, C.c), (zy, 165, 16, ca 1, C.y)]) [0, 1, 2, 3, 4, 5, 6] rfl (I1 := []) [] rfl) (by first | omega | (refine ⟨?_, ?_, ?_, ?_⟩ <;> (first | omega | rfl | assumption | decide | exact Or.inl rfl | exact Or.inr rfl | (simp only; omega)))) (by omega) _ (lv_sub hl [2, 3, 4, 5, 1, 6, 0] rfl)
  exact L9 (pf.toInt - (0 : Int32).toInt : Int).toNat.succ (-1) 0 _ _ hh (by first | omega | (refine ⟨?_, ?_, ?_, ?_⟩ <;> (first | omega | rfl | assumption | decide | exact Or.inl rfl | exact Or.inr rfl | (simp only; omega)))) (by omega) _ (lv_sub hl [3, 4, 5, 6, 2, 1, 0] rfl)
end
section
theorem dX14_open_0 : decode cX14_open 0 = .ok (.aload_n 0, 1) := by decide +kernel
theorem dX14_open_1 : decode cX14_open 1 = .ok (.iload_n 1, 1) := by decide +kernel
theorem dX14_open_2 : decode cX14_open 2 = .ok (.ldc_w 514, 3) := by decide +kernel
theorem dX14_open_5 : decode cX14_open 5 = .ok (.invokevirtual 430, 3) := by decide +kernel
theorem dX14_open_8 : decode cX14_open 8 = .ok (.istore_n 2, 1) := by decide +kernel
theorem dX14_open_9 : decode cX14_open 9 = .ok (.aload_n 0, 1) := by decide +kernel
theorem dX14_open_10 : decode cX14_open 10 = .ok (.iload_n 2, 1) := by decide +kernel
theorem dX14_open_11 : decode cX14_open 11 = .ok (.ldc_w 516, 3) := by decide +kernel
theorem dX14_open_14 : decode cX14_open 14 = .ok (.invokevirtual 430, 3) := by decide +kernel
theorem dX14_open_17 : decode cX14_open 17 = .ok (.istore_n 3, 1) := by decide +kernel
theorem dX14_open_18 : decode cX14_open 18 = .ok (.aload_n 0, 1) := by decide +kernel
theorem dX14_open_19 : decode cX14_open 19 = .ok (.iload_n 2, 1) := by decide +kernel
theorem dX14_open_20 : decode cX14_open 20 = .ok (.ldc_w 517, 3) := by decide +kernel
theorem dX14_open_23 : decode cX14_open 23 = .ok (.invokevirtual 430, 3) := by decide +kernel
theorem dX14_open_26 : decode cX14_open 26 = .ok (.istore 4, 2) := by decide +kernel
theorem dX14_open_28 : decode cX14_open 28 = .ok (.aload_n 0, 1) := by decide +kernel
theorem dX14_open_29 : decode cX14_open 29 = .ok (.iload_n 2, 1) := by decide +kernel
theorem dX14_open_30 : decode cX14_open 30 = .ok (.ldc_w 519, 3) := by decide +kernel
theorem dX14_open_33 : decode cX14_open 33 = .ok (.invokevirtual 430, 3) := by decide +kernel
theorem dX14_open_36 : decode cX14_open 36 = .ok (.istore 5, 2) := by decide +kernel
theorem dX14_open_38 : decode cX14_open 38 = .ok (.aload_n 0, 1) := by decide +kernel
theorem dX14_open_39 : decode cX14_open 39 = .ok (.iload_n 3, 1) := by decide +kernel
theorem dX14_open_40 : decode cX14_open 40 = .ok (.invokevirtual 368, 3) := by decide +kernel
theorem dX14_open_43 : decode cX14_open 43 = .ok (.ifCond .eq 68, 3) := by decide +kernel
theorem dX14_open_46 : decode cX14_open 46 = .ok (.aload_n 0, 1) := by decide +kernel
theorem dX14_open_47 : decode cX14_open 47 = .ok (.getfield 55, 3) := by decide +kernel
theorem dX14_open_50 : decode cX14_open 50 = .ok (.iload_n 3, 1) := by decide +kernel
theorem dX14_open_51 : decode cX14_open 51 = .ok (.iaload, 1) := by decide +kernel
theorem dX14_open_52 : decode cX14_open 52 = .ok (.aload_n 0, 1) := by decide +kernel
theorem dX14_open_53 : decode cX14_open 53 = .ok (.getfield 52, 3) := by decide +kernel
theorem dX14_open_56 : decode cX14_open 56 = .ok (.iload_n 3, 1) := by decide +kernel
theorem dX14_open_57 : decode cX14_open 57 = .ok (.iaload, 1) := by decide +kernel
theorem dX14_open_58 : decode cX14_open 58 = .ok (.isub, 1) := by decide +kernel
theorem dX14_open_59 : decode cX14_open 59 = .ok (.iconst 1, 1) := by decide +kernel
theorem dX14_open_60 : decode cX14_open 60 = .ok (.bipush 40, 2) := by decide +kernel
theorem dX14_open_62 : decode cX14_open 62 = .ok (.invokestatic 181, 3) := by decide +kernel
theorem dX14_open_65 : decode cX14_open 65 = .ok (.ifCond .eq 46, 3) := by decide +kernel
theorem dX14_open_68 : decode cX14_open 68 = .ok (.aload_n 0, 1) := by decide +kernel
theorem dX14_open_69 : decode cX14_open 69 = .ok (.iload 4, 2) := by decide +kernel
theorem dX14_open_71 : decode cX14_open 71 = .ok (.invokevirtual 371, 3) := by decide +kernel
theorem dX14_open_74 : decode cX14_open 74 = .ok (.ifCond .eq 37, 3) := by decide +kernel
theorem dX14_open_77 : decode cX14_open 77 = .ok (.aload_n 0, 1) := by decide +kernel
theorem dX14_open_78 : decode cX14_open 78 = .ok (.iload 5, 2) := by decide +kernel
theorem dX14_open_80 : decode cX14_open 80 = .ok (.invokevirtual 368, 3) := by decide +kernel
theorem dX14_open_83 : decode cX14_open 83 = .ok (.ifCond .eq 28, 3) := by decide +kernel
theorem dX14_open_86 : decode cX14_open 86 = .ok (.aload_n 0, 1) := by decide +kernel
theorem dX14_open_87 : decode cX14_open 87 = .ok (.getfield 55, 3) := by decide +kernel
theorem dX14_open_90 : decode cX14_open 90 = .ok (.iload 5, 2) := by decide +kernel
theorem dX14_open_92 : decode cX14_open 92 = .ok (.iaload, 1) := by decide +kernel
theorem dX14_open_93 : decode cX14_open 93 = .ok (.aload_n 0, 1) := by decide +kernel
theorem dX14_open_94 : decode cX14_open 94 = .ok (.getfield 52, 3) := by decide +kernel
theorem dX14_open_97 : decode cX14_open 97 = .ok (.iload 5, 2) := by decide +kernel
theorem dX14_open_99 : decode cX14_open 99 = .ok (.iaload, 1) := by decide +kernel
theorem dX14_open_100 : decode cX14_open 100 = .ok (.isub, 1) := by decide +kernel
theorem dX14_open_101 : decode cX14_open 101 = .ok (.sipush 1500, 3) := by decide +kernel
theorem dX14_open_104 : decode cX14_open 104 = .ok (.if_icmp .gt 7, 3) := by decide +kernel
theorem dX14_open_107 : decode cX14_open 107 = .ok (.iconst 1, 1) := by decide +kernel
theorem dX14_open_108 : decode cX14_open 108 = .ok (.goto 4, 3) := by decide +kernel
theorem dX14_open_111 : decode cX14_open 111 = .ok (.iconst 0, 1) := by decide +kernel
theorem dX14_open_112 : decode cX14_open 112 = .ok (.istore 6, 2) := by decide +kernel
theorem dX14_open_114 : decode cX14_open 114 = .ok (.iload 6, 2) := by decide +kernel
theorem dX14_open_116 : decode cX14_open 116 = .ok (.ifCond .eq 19, 3) := by decide +kernel
theorem dX14_open_119 : decode cX14_open 119 = .ok (.aload_n 0, 1) := by decide +kernel
theorem dX14_open_120 : decode cX14_open 120 = .ok (.iload_n 3, 1) := by decide +kernel
theorem dX14_open_121 : decode cX14_open 121 = .ok (.invokevirtual 520, 3) := by decide +kernel
theorem dX14_open_124 : decode cX14_open 124 = .ok (.ifnonnull 11, 3) := by decide +kernel
theorem dX14_open_127 : decode cX14_open 127 = .ok (.aload_n 0, 1) := by decide +kernel
theorem dX14_open_128 : decode cX14_open 128 = .ok (.getfield 505, 3) := by decide +kernel
theorem dX14_open_131 : decode cX14_open 131 = .ok (.iconst 3, 1) := by decide +kernel
theorem dX14_open_132 : decode cX14_open 132 = .ok (.if_icmp .ne 4, 3) := by decide +kernel
theorem dX14_open_135 : decode cX14_open 135 = .ok (.return_, 1) := by decide +kernel
theorem dX14_open_136 : decode cX14_open 136 = .ok (.aload_n 0, 1) := by decide +kernel
theorem dX14_open_137 : decode cX14_open 137 = .ok (.getfield 74, 3) := by decide +kernel
theorem dX14_open_140 : decode cX14_open 140 = .ok (.aload_n 0, 1) := by decide +kernel
theorem dX14_open_141 : decode cX14_open 141 = .ok (.getfield 505, 3) := by decide +kernel
theorem dX14_open_144 : decode cX14_open 144 = .ok (.aaload, 1) := by decide +kernel
theorem dX14_open_145 : decode cX14_open 145 = .ok (.astore 7, 2) := by decide +kernel
theorem dX14_open_147 : decode cX14_open 147 = .ok (.aload_n 0, 1) := by decide +kernel
theorem dX14_open_148 : decode cX14_open 148 = .ok (.dup, 1) := by decide +kernel
theorem dX14_open_149 : decode cX14_open 149 = .ok (.getfield 505, 3) := by decide +kernel
theorem dX14_open_152 : decode cX14_open 152 = .ok (.iconst 1, 1) := by decide +kernel
theorem dX14_open_153 : decode cX14_open 153 = .ok (.iadd, 1) := by decide +kernel
theorem dX14_open_154 : decode cX14_open 154 = .ok (.putfield 505, 3) := by decide +kernel
theorem dX14_open_157 : decode cX14_open 157 = .ok (.aload 7, 2) := by decide +kernel
theorem dX14_open_159 : decode cX14_open 159 = .ok (.aload_n 0, 1) := by decide +kernel
theorem dX14_open_160 : decode cX14_open 160 = .ok (.getfield 55, 3) := by decide +kernel
theorem dX14_open_163 : decode cX14_open 163 = .ok (.iload_n 3, 1) := by decide +kernel
theorem dX14_open_164 : decode cX14_open 164 = .ok (.iaload, 1) := by decide +kernel
theorem dX14_open_165 : decode cX14_open 165 = .ok (.aload_n 0, 1) := by decide +kernel
theorem dX14_open_166 : decode cX14_open 166 = .ok (.getfield 52, 3) := by decide +kernel
theorem dX14_open_169 : decode cX14_open 169 = .ok (.iload_n 3, 1) := by decide +kernel
theorem dX14_open_170 : decode cX14_open 170 = .ok (.iaload, 1) := by decide +kernel
theorem dX14_open_171 : decode cX14_open 171 = .ok (.isub, 1) := by decide +kernel
theorem dX14_open_172 : decode cX14_open 172 = .ok (.putfield 508, 3) := by decide +kernel
theorem dX14_open_175 : decode cX14_open 175 = .ok (.iconst 0, 1) := by decide +kernel
theorem dX14_open_176 : decode cX14_open 176 = .ok (.istore 8, 2) := by decide +kernel
theorem dX14_open_178 : decode cX14_open 178 = .ok (.iload 8, 2) := by decide +kernel
theorem dX14_open_180 : decode cX14_open 180 = .ok (.aload 7, 2) := by decide +kernel
theorem dX14_open_182 : decode cX14_open 182 = .ok (.getfield 508, 3) := by decide +kernel
theorem dX14_open_185 : decode cX14_open 185 = .ok (.if_icmp .ge 31, 3) := by decide +kernel
theorem dX14_open_188 : decode cX14_open 188 = .ok (.aload 7, 2) := by decide +kernel
theorem dX14_open_190 : decode cX14_open 190 = .ok (.getfield 511, 3) := by decide +kernel
theorem dX14_open_193 : decode cX14_open 193 = .ok (.iload 8, 2) := by decide +kernel
theorem dX14_open_195 : decode cX14_open 195 = .ok (.aload_n 0, 1) := by decide +kernel
theorem dX14_open_196 : decode cX14_open 196 = .ok (.getfield 65, 3) := by decide +kernel
theorem dX14_open_199 : decode cX14_open 199 = .ok (.aload_n 0, 1) := by decide +kernel
theorem dX14_open_200 : decode cX14_open 200 = .ok (.getfield 52, 3) := by decide +kernel
theorem dX14_open_203 : decode cX14_open 203 = .ok (.iload_n 3, 1) := by decide +kernel
theorem dX14_open_204 : decode cX14_open 204 = .ok (.iaload, 1) := by decide +kernel
theorem dX14_open_205 : decode cX14_open 205 = .ok (.iload 8, 2) := by decide +kernel
theorem dX14_open_207 : decode cX14_open 207 = .ok (.iadd, 1) := by decide +kernel
theorem dX14_open_208 : decode cX14_open 208 = .ok (.iaload, 1) := by decide +kernel
theorem dX14_open_209 : decode cX14_open 209 = .ok (.iastore, 1) := by decide +kernel
theorem dX14_open_210 : decode cX14_open 210 = .ok (.iinc 8 1, 3) := by decide +kernel
theorem dX14_open_213 : decode cX14_open 213 = .ok (.goto (-35), 3) := by decide +kernel
theorem dX14_open_216 : decode cX14_open 216 = .ok (.aload 7, 2) := by decide +kernel
theorem dX14_open_218 : decode cX14_open 218 = .ok (.aload_n 0, 1) := by decide +kernel
theorem dX14_open_219 : decode cX14_open 219 = .ok (.getfield 62, 3) := by decide +kernel
theorem dX14_open_222 : decode cX14_open 222 = .ok (.iload 4, 2) := by decide +kernel
theorem dX14_open_224 : decode cX14_open 224 = .ok (.iaload, 1) := by decide +kernel
theorem dX14_open_225 : decode cX14_open 225 = .ok (.putfield 524, 3) := by decide +kernel
theorem dX14_open_228 : decode cX14_open 228 = .ok (.aload 7, 2) := by decide +kernel
theorem dX14_open_230 : decode cX14_open 230 = .ok (.aload_n 0, 1) := by decide +kernel
theorem dX14_open_231 : decode cX14_open 231 = .ok (.getfield 55, 3) := by decide +kernel
theorem dX14_open_234 : decode cX14_open 234 = .ok (.iload 5, 2) := by decide +kernel
theorem dX14_open_236 : decode cX14_open 236 = .ok (.iaload, 1) := by decide +kernel
theorem dX14_open_237 : decode cX14_open 237 = .ok (.aload_n 0, 1) := by decide +kernel
theorem dX14_open_238 : decode cX14_open 238 = .ok (.getfield 52, 3) := by decide +kernel
theorem dX14_open_241 : decode cX14_open 241 = .ok (.iload 5, 2) := by decide +kernel
theorem dX14_open_243 : decode cX14_open 243 = .ok (.iaload, 1) := by decide +kernel
theorem dX14_open_244 : decode cX14_open 244 = .ok (.isub, 1) := by decide +kernel
theorem dX14_open_245 : decode cX14_open 245 = .ok (.putfield 526, 3) := by decide +kernel
theorem dX14_open_248 : decode cX14_open 248 = .ok (.iconst 0, 1) := by decide +kernel
theorem dX14_open_249 : decode cX14_open 249 = .ok (.istore 8, 2) := by decide +kernel
theorem dX14_open_251 : decode cX14_open 251 = .ok (.iload 8, 2) := by decide +kernel
theorem dX14_open_253 : decode cX14_open 253 = .ok (.aload 7, 2) := by decide +kernel
theorem dX14_open_255 : decode cX14_open 255 = .ok (.getfield 526, 3) := by decide +kernel
theorem dX14_open_258 : decode cX14_open 258 = .ok (.if_icmp .ge 32, 3) := by decide +kernel
theorem dX14_open_261 : decode cX14_open 261 = .ok (.aload 7, 2) := by decide +kernel
theorem dX14_open_263 : decode cX14_open 263 = .ok (.getfield 529, 3) := by decide +kernel
theorem dX14_open_266 : decode cX14_open 266 = .ok (.iload 8, 2) := by decide +kernel
theorem dX14_open_268 : decode cX14_open 268 = .ok (.aload_n 0, 1) := by decide +kernel
theorem dX14_open_269 : decode cX14_open 269 = .ok (.getfield 65, 3) := by decide +kernel
theorem dX14_open_272 : decode cX14_open 272 = .ok (.aload_n 0, 1) := by decide +kernel
theorem dX14_open_273 : decode cX14_open 273 = .ok (.getfield 52, 3) := by decide +kernel
theorem dX14_open_276 : decode cX14_open 276 = .ok (.iload 5, 2) := by decide +kernel
theorem dX14_open_278 : decode cX14_open 278 = .ok (.iaload, 1) := by decide +kernel
theorem dX14_open_279 : decode cX14_open 279 = .ok (.iload 8, 2) := by decide +kernel
theorem dX14_open_281 : decode cX14_open 281 = .ok (.iadd, 1) := by decide +kernel
theorem dX14_open_282 : decode cX14_open 282 = .ok (.iaload, 1) := by decide +kernel
theorem dX14_open_283 : decode cX14_open 283 = .ok (.iastore, 1) := by decide +kernel
theorem dX14_open_284 : decode cX14_open 284 = .ok (.iinc 8 1, 3) := by decide +kernel
theorem dX14_open_287 : decode cX14_open 287 = .ok (.goto (-36), 3) := by decide +kernel
theorem dX14_open_290 : decode cX14_open 290 = .ok (.aload 7, 2) := by decide +kernel
theorem dX14_open_292 : decode cX14_open 292 = .ok (.iconst 0, 1) := by decide +kernel
theorem dX14_open_293 : decode cX14_open 293 = .ok (.putfield 531, 3) := by decide +kernel
theorem dX14_open_296 : decode cX14_open 296 = .ok (.aload 7, 2) := by decide +kernel
theorem dX14_open_298 : decode cX14_open 298 = .ok (.invokestatic 534, 3) := by decide +kernel
theorem dX14_open_301 : decode cX14_open 301 = .ok (.aload_n 0, 1) := by decide +kernel
theorem dX14_open_302 : decode cX14_open 302 = .ok (.aload 7, 2) := by decide +kernel
theorem dX14_open_304 : decode cX14_open 304 = .ok (.invokevirtual 538, 3) := by decide +kernel
theorem dX14_open_307 : decode cX14_open 307 = .ok (.return_, 1) := by decide +kernel
end
section
theorem dX14_same_0 : decode cX14_same 0 = .ok (.aload_n 0, 1) := by decide +kernel
theorem dX14_same_1 : decode cX14_same 1 = .ok (.getfield 84, 3) := by decide +kernel
theorem dX14_same_4 : decode cX14_same 4 = .ok (.aload_n 1, 1) := by decide +kernel
theorem dX14_same_5 : decode cX14_same 5 = .ok (.getfield 526, 3) := by decide +kernel
theorem dX14_same_8 : decode cX14_same 8 = .ok (.putfield 526, 3) := by decide +kernel
theorem dX14_same_11 : decode cX14_same 11 = .ok (.iconst 0, 1) := by decide +kernel
theorem dX14_same_12 : decode cX14_same 12 = .ok (.istore_n 2, 1) := by decide +kernel
theorem dX14_same_13 : decode cX14_same 13 = .ok (.iload_n 2, 1) := by decide +kernel
theorem dX14_same_14 : decode cX14_same 14 = .ok (.aload_n 1, 1) := by decide +kernel
theorem dX14_same_15 : decode cX14_same 15 = .ok (.getfield 526, 3) := by decide +kernel
theorem dX14_same_18 : decode cX14_same 18 = .ok (.if_icmp .ge 24, 3) := by decide +kernel
theorem dX14_same_21 : decode cX14_same 21 = .ok (.aload_n 0, 1) := by decide +kernel
theorem dX14_same_22 : decode cX14_same 22 = .ok (.getfield 84, 3) := by decide +kernel
theorem dX14_same_25 : decode cX14_same 25 = .ok (.getfield 529, 3) := by decide +kernel
theorem dX14_same_28 : decode cX14_same 28 = .ok (.iload_n 2, 1) := by decide +kernel
theorem dX14_same_29 : decode cX14_same 29 = .ok (.aload_n 1, 1) := by decide +kernel
theorem dX14_same_30 : decode cX14_same 30 = .ok (.getfield 529, 3) := by decide +kernel
theorem dX14_same_33 : decode cX14_same 33 = .ok (.iload_n 2, 1) := by decide +kernel
theorem dX14_same_34 : decode cX14_same 34 = .ok (.iaload, 1) := by decide +kernel
theorem dX14_same_35 : decode cX14_same 35 = .ok (.iastore, 1) := by decide +kernel
theorem dX14_same_36 : decode cX14_same 36 = .ok (.iinc 2 1, 3) := by decide +kernel
theorem dX14_same_39 : decode cX14_same 39 = .ok (.goto (-26), 3) := by decide +kernel
theorem dX14_same_42 : decode cX14_same 42 = .ok (.aload_n 0, 1) := by decide +kernel
theorem dX14_same_43 : decode cX14_same 43 = .ok (.getfield 84, 3) := by decide +kernel
theorem dX14_same_46 : decode cX14_same 46 = .ok (.invokestatic 534, 3) := by decide +kernel
theorem dX14_same_49 : decode cX14_same 49 = .ok (.aload_n 0, 1) := by decide +kernel
theorem dX14_same_50 : decode cX14_same 50 = .ok (.getfield 88, 3) := by decide +kernel
theorem dX14_same_53 : decode cX14_same 53 = .ok (.aload_n 0, 1) := by decide +kernel
theorem dX14_same_54 : decode cX14_same 54 = .ok (.getfield 550, 3) := by decide +kernel
theorem dX14_same_57 : decode cX14_same 57 = .ok (.putfield 526, 3) := by decide +kernel
theorem dX14_same_60 : decode cX14_same 60 = .ok (.iconst 0, 1) := by decide +kernel
theorem dX14_same_61 : decode cX14_same 61 = .ok (.istore_n 2, 1) := by decide +kernel
theorem dX14_same_62 : decode cX14_same 62 = .ok (.iload_n 2, 1) := by decide +kernel
theorem dX14_same_63 : decode cX14_same 63 = .ok (.aload_n 0, 1) := by decide +kernel
theorem dX14_same_64 : decode cX14_same 64 = .ok (.getfield 550, 3) := by decide +kernel
theorem dX14_same_67 : decode cX14_same 67 = .ok (.if_icmp .ge 24, 3) := by decide +kernel
theorem dX14_same_70 : decode cX14_same 70 = .ok (.aload_n 0, 1) := by decide +kernel
theorem dX14_same_71 : decode cX14_same 71 = .ok (.getfield 88, 3) := by decide +kernel
theorem dX14_same_74 : decode cX14_same 74 = .ok (.getfield 529, 3) := by decide +kernel
theorem dX14_same_77 : decode cX14_same 77 = .ok (.iload_n 2, 1) := by decide +kernel
theorem dX14_same_78 : decode cX14_same 78 = .ok (.aload_n 0, 1) := by decide +kernel
theorem dX14_same_79 : decode cX14_same 79 = .ok (.getfield 78, 3) := by decide +kernel
theorem dX14_same_82 : decode cX14_same 82 = .ok (.iload_n 2, 1) := by decide +kernel
theorem dX14_same_83 : decode cX14_same 83 = .ok (.iaload, 1) := by decide +kernel
theorem dX14_same_84 : decode cX14_same 84 = .ok (.iastore, 1) := by decide +kernel
theorem dX14_same_85 : decode cX14_same 85 = .ok (.iinc 2 1, 3) := by decide +kernel
theorem dX14_same_88 : decode cX14_same 88 = .ok (.goto (-26), 3) := by decide +kernel
theorem dX14_same_91 : decode cX14_same 91 = .ok (.aload_n 0, 1) := by decide +kernel
theorem dX14_same_92 : decode cX14_same 92 = .ok (.getfield 88, 3) := by decide +kernel
theorem dX14_same_95 : decode cX14_same 95 = .ok (.invokestatic 534, 3) := by decide +kernel
theorem dX14_same_98 : decode cX14_same 98 = .ok (.iconst 0, 1) := by decide +kernel
theorem dX14_same_99 : decode cX14_same 99 = .ok (.istore_n 2, 1) := by decide +kernel
theorem dX14_same_100 : decode cX14_same 100 = .ok (.iload_n 2, 1) := by decide +kernel
theorem dX14_same_101 : decode cX14_same 101 = .ok (.aload_n 0, 1) := by decide +kernel
theorem dX14_same_102 : decode cX14_same 102 = .ok (.getfield 84, 3) := by decide +kernel
theorem dX14_same_105 : decode cX14_same 105 = .ok (.getfield 587, 3) := by decide +kernel
theorem dX14_same_108 : decode cX14_same 108 = .ok (.if_icmp .ge 36, 3) := by decide +kernel
theorem dX14_same_111 : decode cX14_same 111 = .ok (.iload_n 2, 1) := by decide +kernel
theorem dX14_same_112 : decode cX14_same 112 = .ok (.aload_n 0, 1) := by decide +kernel
theorem dX14_same_113 : decode cX14_same 113 = .ok (.getfield 88, 3) := by decide +kernel
theorem dX14_same_116 : decode cX14_same 116 = .ok (.getfield 587, 3) := by decide +kernel
theorem dX14_same_119 : decode cX14_same 119 = .ok (.if_icmp .ge 25, 3) := by decide +kernel
theorem dX14_same_122 : decode cX14_same 122 = .ok (.aload_n 0, 1) := by decide +kernel
theorem dX14_same_123 : decode cX14_same 123 = .ok (.getfield 84, 3) := by decide +kernel
theorem dX14_same_126 : decode cX14_same 126 = .ok (.iload_n 2, 1) := by decide +kernel
theorem dX14_same_127 : decode cX14_same 127 = .ok (.aload_n 0, 1) := by decide +kernel
theorem dX14_same_128 : decode cX14_same 128 = .ok (.getfield 88, 3) := by decide +kernel
theorem dX14_same_131 : decode cX14_same 131 = .ok (.iload_n 2, 1) := by decide +kernel
theorem dX14_same_132 : decode cX14_same 132 = .ok (.invokestatic 590, 3) := by decide +kernel
theorem dX14_same_135 : decode cX14_same 135 = .ok (.ifCond .eq 9, 3) := by decide +kernel
theorem dX14_same_138 : decode cX14_same 138 = .ok (.iinc 2 1, 3) := by decide +kernel
theorem dX14_same_141 : decode cX14_same 141 = .ok (.goto (-41), 3) := by decide +kernel
theorem dX14_same_144 : decode cX14_same 144 = .ok (.iload_n 2, 1) := by decide +kernel
theorem dX14_same_145 : decode cX14_same 145 = .ok (.ireturn, 1) := by decide +kernel
end
section
theorem dX14_change_0 : decode cX14_change 0 = .ok (.aload_n 0, 1) := by decide +kernel
theorem dX14_change_1 : decode cX14_change 1 = .ok (.iload_n 1, 1) := by decide +kernel
theorem dX14_change_2 : decode cX14_change 2 = .ok (.ldc_w 514, 3) := by decide +kernel
theorem dX14_change_5 : decode cX14_change 5 = .ok (.invokevirtual 430, 3) := by decide +kernel
theorem dX14_change_8 : decode cX14_change 8 = .ok (.istore_n 2, 1) := by decide +kernel
theorem dX14_change_9 : decode cX14_change 9 = .ok (.aload_n 0, 1) := by decide +kernel
theorem dX14_change_10 : decode cX14_change 10 = .ok (.iload_n 2, 1) := by decide +kernel
theorem dX14_change_11 : decode cX14_change 11 = .ok (.ldc_w 517, 3) := by decide +kernel
theorem dX14_change_14 : decode cX14_change 14 = .ok (.invokevirtual 430, 3) := by decide +kernel
theorem dX14_change_17 : decode cX14_change 17 = .ok (.istore_n 3, 1) := by decide +kernel
theorem dX14_change_18 : decode cX14_change 18 = .ok (.aload_n 0, 1) := by decide +kernel
theorem dX14_change_19 : decode cX14_change 19 = .ok (.iload_n 1, 1) := by decide +kernel
theorem dX14_change_20 : decode cX14_change 20 = .ok (.ldc_w 569, 3) := by decide +kernel
theorem dX14_change_23 : decode cX14_change 23 = .ok (.invokevirtual 430, 3) := by decide +kernel
theorem dX14_change_26 : decode cX14_change 26 = .ok (.istore 4, 2) := by decide +kernel
theorem dX14_change_28 : decode cX14_change 28 = .ok (.aload_n 0, 1) := by decide +kernel
theorem dX14_change_29 : decode cX14_change 29 = .ok (.aload_n 0, 1) := by decide +kernel
theorem dX14_change_30 : decode cX14_change 30 = .ok (.iload_n 2, 1) := by decide +kernel
theorem dX14_change_31 : decode cX14_change 31 = .ok (.ldc_w 516, 3) := by decide +kernel
theorem dX14_change_34 : decode cX14_change 34 = .ok (.invokevirtual 430, 3) := by decide +kernel
theorem dX14_change_37 : decode cX14_change 37 = .ok (.invokevirtual 520, 3) := by decide +kernel
theorem dX14_change_40 : decode cX14_change 40 = .ok (.astore 5, 2) := by decide +kernel
theorem dX14_change_42 : decode cX14_change 42 = .ok (.aload 5, 2) := by decide +kernel
theorem dX14_change_44 : decode cX14_change 44 = .ok (.ifnull 41, 3) := by decide +kernel
theorem dX14_change_47 : decode cX14_change 47 = .ok (.aload_n 0, 1) := by decide +kernel
theorem dX14_change_48 : decode cX14_change 48 = .ok (.iload_n 3, 1) := by decide +kernel
theorem dX14_change_49 : decode cX14_change 49 = .ok (.invokevirtual 371, 3) := by decide +kernel
theorem dX14_change_52 : decode cX14_change 52 = .ok (.ifCond .eq 33, 3) := by decide +kernel
theorem dX14_change_55 : decode cX14_change 55 = .ok (.iload 4, 2) := by decide +kernel
theorem dX14_change_57 : decode cX14_change 57 = .ok (.ifCond .lt 28, 3) := by decide +kernel
theorem dX14_change_60 : decode cX14_change 60 = .ok (.aload_n 0, 1) := by decide +kernel
theorem dX14_change_61 : decode cX14_change 61 = .ok (.getfield 37, 3) := by decide +kernel
theorem dX14_change_64 : decode cX14_change 64 = .ok (.iload 4, 2) := by decide +kernel
theorem dX14_change_66 : decode cX14_change 66 = .ok (.iaload, 1) := by decide +kernel
theorem dX14_change_67 : decode cX14_change 67 = .ok (.iconst 5, 1) := by decide +kernel
theorem dX14_change_68 : decode cX14_change 68 = .ok (.if_icmp .ne 17, 3) := by decide +kernel
theorem dX14_change_71 : decode cX14_change 71 = .ok (.aload_n 0, 1) := by decide +kernel
theorem dX14_change_72 : decode cX14_change 72 = .ok (.getfield 62, 3) := by decide +kernel
theorem dX14_change_75 : decode cX14_change 75 = .ok (.iload_n 3, 1) := by decide +kernel
theorem dX14_change_76 : decode cX14_change 76 = .ok (.iaload, 1) := by decide +kernel
theorem dX14_change_77 : decode cX14_change 77 = .ok (.aload 5, 2) := by decide +kernel
theorem dX14_change_79 : decode cX14_change 79 = .ok (.getfield 524, 3) := by decide +kernel
theorem dX14_change_82 : decode cX14_change 82 = .ok (.if_icmp .gt 4, 3) := by decide +kernel
theorem dX14_change_85 : decode cX14_change 85 = .ok (.return_, 1) := by decide +kernel
theorem dX14_change_86 : decode cX14_change 86 = .ok (.iconst 0, 1) := by decide +kernel
theorem dX14_change_87 : decode cX14_change 87 = .ok (.istore 6, 2) := by decide +kernel
theorem dX14_change_89 : decode cX14_change 89 = .ok (.iconst 1, 1) := by decide +kernel
theorem dX14_change_90 : decode cX14_change 90 = .ok (.istore 7, 2) := by decide +kernel
theorem dX14_change_92 : decode cX14_change 92 = .ok (.aload_n 0, 1) := by decide +kernel
theorem dX14_change_93 : decode cX14_change 93 = .ok (.getfield 40, 3) := by decide +kernel
theorem dX14_change_96 : decode cX14_change 96 = .ok (.iload 4, 2) := by decide +kernel
theorem dX14_change_98 : decode cX14_change 98 = .ok (.iaload, 1) := by decide +kernel
theorem dX14_change_99 : decode cX14_change 99 = .ok (.istore 8, 2) := by decide +kernel
theorem dX14_change_101 : decode cX14_change 101 = .ok (.iload 8, 2) := by decide +kernel
theorem dX14_change_103 : decode cX14_change 103 = .ok (.ifCond .lt 39, 3) := by decide +kernel
theorem dX14_change_106 : decode cX14_change 106 = .ok (.iinc 6 1, 3) := by decide +kernel
theorem dX14_change_109 : decode cX14_change 109 = .ok (.iload 7, 2) := by decide +kernel
theorem dX14_change_111 : decode cX14_change 111 = .ok (.ifCond .eq 16, 3) := by decide +kernel
theorem dX14_change_114 : decode cX14_change 114 = .ok (.aload_n 0, 1) := by decide +kernel
theorem dX14_change_115 : decode cX14_change 115 = .ok (.iload 8, 2) := by decide +kernel
theorem dX14_change_117 : decode cX14_change 117 = .ok (.invokevirtual 571, 3) := by decide +kernel
theorem dX14_change_120 : decode cX14_change 120 = .ok (.ifCond .eq 7, 3) := by decide +kernel
theorem dX14_change_123 : decode cX14_change 123 = .ok (.iconst 1, 1) := by decide +kernel
theorem dX14_change_124 : decode cX14_change 124 = .ok (.goto 4, 3) := by decide +kernel
theorem dX14_change_127 : decode cX14_change 127 = .ok (.iconst 0, 1) := by decide +kernel
theorem dX14_change_128 : decode cX14_change 128 = .ok (.istore 7, 2) := by decide +kernel
theorem dX14_change_130 : decode cX14_change 130 = .ok (.aload_n 0, 1) := by decide +kernel
theorem dX14_change_131 : decode cX14_change 131 = .ok (.getfield 43, 3) := by decide +kernel
theorem dX14_change_134 : decode cX14_change 134 = .ok (.iload 8, 2) := by decide +kernel
theorem dX14_change_136 : decode cX14_change 136 = .ok (.iaload, 1) := by decide +kernel
theorem dX14_change_137 : decode cX14_change 137 = .ok (.istore 8, 2) := by decide +kernel
theorem dX14_change_139 : decode cX14_change 139 = .ok (.goto (-38), 3) := by decide +kernel
theorem dX14_change_142 : decode cX14_change 142 = .ok (.iload 7, 2) := by decide +kernel
theorem dX14_change_144 : decode cX14_change 144 = .ok (.ifCond .eq 14, 3) := by decide +kernel
theorem dX14_change_147 : decode cX14_change 147 = .ok (.iload 6, 2) := by decide +kernel
theorem dX14_change_149 : decode cX14_change 149 = .ok (.iconst 1, 1) := by decide +kernel
theorem dX14_change_150 : decode cX14_change 150 = .ok (.bipush 8, 2) := by decide +kernel
theorem dX14_change_152 : decode cX14_change 152 = .ok (.invokestatic 181, 3) := by decide +kernel
theorem dX14_change_155 : decode cX14_change 155 = .ok (.ifCond .ne 4, 3) := by decide +kernel
theorem dX14_change_158 : decode cX14_change 158 = .ok (.return_, 1) := by decide +kernel
theorem dX14_change_159 : decode cX14_change 159 = .ok (.aload_n 0, 1) := by decide +kernel
theorem dX14_change_160 : decode cX14_change 160 = .ok (.aload 5, 2) := by decide +kernel
theorem dX14_change_162 : decode cX14_change 162 = .ok (.getfield 526, 3) := by decide +kernel
theorem dX14_change_165 : decode cX14_change 165 = .ok (.putfield 550, 3) := by decide +kernel
theorem dX14_change_168 : decode cX14_change 168 = .ok (.iconst 0, 1) := by decide +kernel
theorem dX14_change_169 : decode cX14_change 169 = .ok (.istore 8, 2) := by decide +kernel
theorem dX14_change_171 : decode cX14_change 171 = .ok (.iload 8, 2) := by decide +kernel
theorem dX14_change_173 : decode cX14_change 173 = .ok (.aload 5, 2) := by decide +kernel
theorem dX14_change_175 : decode cX14_change 175 = .ok (.getfield 526, 3) := by decide +kernel
theorem dX14_change_178 : decode cX14_change 178 = .ok (.if_icmp .ge 24, 3) := by decide +kernel
theorem dX14_change_181 : decode cX14_change 181 = .ok (.aload_n 0, 1) := by decide +kernel
theorem dX14_change_182 : decode cX14_change 182 = .ok (.getfield 78, 3) := by decide +kernel
theorem dX14_change_185 : decode cX14_change 185 = .ok (.iload 8, 2) := by decide +kernel
theorem dX14_change_187 : decode cX14_change 187 = .ok (.aload 5, 2) := by decide +kernel
theorem dX14_change_189 : decode cX14_change 189 = .ok (.getfield 529, 3) := by decide +kernel
theorem dX14_change_192 : decode cX14_change 192 = .ok (.iload 8, 2) := by decide +kernel
theorem dX14_change_194 : decode cX14_change 194 = .ok (.iaload, 1) := by decide +kernel
theorem dX14_change_195 : decode cX14_change 195 = .ok (.iastore, 1) := by decide +kernel
theorem dX14_change_196 : decode cX14_change 196 = .ok (.iinc 8 1, 3) := by decide +kernel
theorem dX14_change_199 : decode cX14_change 199 = .ok (.goto (-28), 3) := by decide +kernel
theorem dX14_change_202 : decode cX14_change 202 = .ok (.aload_n 0, 1) := by decide +kernel
theorem dX14_change_203 : decode cX14_change 203 = .ok (.getfield 40, 3) := by decide +kernel
theorem dX14_change_206 : decode cX14_change 206 = .ok (.iload 4, 2) := by decide +kernel
theorem dX14_change_208 : decode cX14_change 208 = .ok (.iaload, 1) := by decide +kernel
theorem dX14_change_209 : decode cX14_change 209 = .ok (.istore 8, 2) := by decide +kernel
theorem dX14_change_211 : decode cX14_change 211 = .ok (.iload 8, 2) := by decide +kernel
theorem dX14_change_213 : decode cX14_change 213 = .ok (.ifCond .lt 25, 3) := by decide +kernel
theorem dX14_change_216 : decode cX14_change 216 = .ok (.aload_n 0, 1) := by decide +kernel
theorem dX14_change_217 : decode cX14_change 217 = .ok (.iload 8, 2) := by decide +kernel
theorem dX14_change_219 : decode cX14_change 219 = .ok (.invokevirtual 574, 3) := by decide +kernel
theorem dX14_change_222 : decode cX14_change 222 = .ok (.ifCond .ne 4, 3) := by decide +kernel
theorem dX14_change_225 : decode cX14_change 225 = .ok (.return_, 1) := by decide +kernel
theorem dX14_change_226 : decode cX14_change 226 = .ok (.aload_n 0, 1) := by decide +kernel
theorem dX14_change_227 : decode cX14_change 227 = .ok (.getfield 43, 3) := by decide +kernel
theorem dX14_change_230 : decode cX14_change 230 = .ok (.iload 8, 2) := by decide +kernel
theorem dX14_change_232 : decode cX14_change 232 = .ok (.iaload, 1) := by decide +kernel
theorem dX14_change_233 : decode cX14_change 233 = .ok (.istore 8, 2) := by decide +kernel
theorem dX14_change_235 : decode cX14_change 235 = .ok (.goto (-24), 3) := by decide +kernel
theorem dX14_change_238 : decode cX14_change 238 = .ok (.aload 5, 2) := by decide +kernel
theorem dX14_change_240 : decode cX14_change 240 = .ok (.aload_n 0, 1) := by decide +kernel
theorem dX14_change_241 : decode cX14_change 241 = .ok (.getfield 62, 3) := by decide +kernel
theorem dX14_change_244 : decode cX14_change 244 = .ok (.iload_n 3, 1) := by decide +kernel
theorem dX14_change_245 : decode cX14_change 245 = .ok (.iaload, 1) := by decide +kernel
theorem dX14_change_246 : decode cX14_change 246 = .ok (.putfield 524, 3) := by decide +kernel
theorem dX14_change_249 : decode cX14_change 249 = .ok (.aload_n 0, 1) := by decide +kernel
theorem dX14_change_250 : decode cX14_change 250 = .ok (.aload 5, 2) := by decide +kernel
theorem dX14_change_252 : decode cX14_change 252 = .ok (.invokevirtual 577, 3) := by decide +kernel
theorem dX14_change_255 : decode cX14_change 255 = .ok (.aload_n 0, 1) := by decide +kernel
theorem dX14_change_256 : decode cX14_change 256 = .ok (.aload 5, 2) := by decide +kernel
theorem dX14_change_258 : decode cX14_change 258 = .ok (.invokevirtual 579, 3) := by decide +kernel
theorem dX14_change_261 : decode cX14_change 261 = .ok (.istore 8, 2) := by decide +kernel
theorem dX14_change_263 : decode cX14_change 263 = .ok (.aload 5, 2) := by decide +kernel
theorem dX14_change_265 : decode cX14_change 265 = .ok (.aload_n 0, 1) := by decide +kernel
theorem dX14_change_266 : decode cX14_change 266 = .ok (.getfield 550, 3) := by decide +kernel
theorem dX14_change_269 : decode cX14_change 269 = .ok (.putfield 526, 3) := by decide +kernel
theorem dX14_change_272 : decode cX14_change 272 = .ok (.iconst 0, 1) := by decide +kernel
theorem dX14_change_273 : decode cX14_change 273 = .ok (.istore 9, 2) := by decide +kernel
theorem dX14_change_275 : decode cX14_change 275 = .ok (.iload 9, 2) := by decide +kernel
theorem dX14_change_277 : decode cX14_change 277 = .ok (.aload 5, 2) := by decide +kernel
theorem dX14_change_279 : decode cX14_change 279 = .ok (.getfield 526, 3) := by decide +kernel
theorem dX14_change_282 : decode cX14_change 282 = .ok (.if_icmp .ge 24, 3) := by decide +kernel
theorem dX14_change_285 : decode cX14_change 285 = .ok (.aload 5, 2) := by decide +kernel
theorem dX14_change_287 : decode cX14_change 287 = .ok (.getfield 529, 3) := by decide +kernel
theorem dX14_change_290 : decode cX14_change 290 = .ok (.iload 9, 2) := by decide +kernel
theorem dX14_change_292 : decode cX14_change 292 = .ok (.aload_n 0, 1) := by decide +kernel
theorem dX14_change_293 : decode cX14_change 293 = .ok (.getfield 78, 3) := by decide +kernel
theorem dX14_change_296 : decode cX14_change 296 = .ok (.iload 9, 2) := by decide +kernel
theorem dX14_change_298 : decode cX14_change 298 = .ok (.iaload, 1) := by decide +kernel
theorem dX14_change_299 : decode cX14_change 299 = .ok (.iastore, 1) := by decide +kernel
theorem dX14_change_300 : decode cX14_change 300 = .ok (.iinc 9 1, 3) := by decide +kernel
theorem dX14_change_303 : decode cX14_change 303 = .ok (.goto (-28), 3) := by decide +kernel
theorem dX14_change_306 : decode cX14_change 306 = .ok (.aload_n 0, 1) := by decide +kernel
theorem dX14_change_307 : decode cX14_change 307 = .ok (.aload 5, 2) := by decide +kernel
theorem dX14_change_309 : decode cX14_change 309 = .ok (.iload 8, 2) := by decide +kernel
theorem dX14_change_311 : decode cX14_change 311 = .ok (.invokevirtual 583, 3) := by decide +kernel
theorem dX14_change_314 : decode cX14_change 314 = .ok (.aload_n 0, 1) := by decide +kernel
theorem dX14_change_315 : decode cX14_change 315 = .ok (.aload 5, 2) := by decide +kernel
theorem dX14_change_317 : decode cX14_change 317 = .ok (.invokevirtual 538, 3) := by decide +kernel
theorem dX14_change_320 : decode cX14_change 320 = .ok (.return_, 1) := by decide +kernel
end
section
theorem dX14_close_0 : decode cX14_close 0 = .ok (.aload_n 0, 1) := by decide +kernel
theorem dX14_close_1 : decode cX14_close 1 = .ok (.aload_n 0, 1) := by decide +kernel
theorem dX14_close_2 : decode cX14_close 2 = .ok (.aload_n 0, 1) := by decide +kernel
theorem dX14_close_3 : decode cX14_close 3 = .ok (.iload_n 1, 1) := by decide +kernel
theorem dX14_close_4 : decode cX14_close 4 = .ok (.ldc_w 514, 3) := by decide +kernel
theorem dX14_close_7 : decode cX14_close 7 = .ok (.invokevirtual 430, 3) := by decide +kernel
theorem dX14_close_10 : decode cX14_close 10 = .ok (.ldc_w 516, 3) := by decide +kernel
theorem dX14_close_13 : decode cX14_close 13 = .ok (.invokevirtual 430, 3) := by decide +kernel
theorem dX14_close_16 : decode cX14_close 16 = .ok (.invokevirtual 520, 3) := by decide +kernel
theorem dX14_close_19 : decode cX14_close 19 = .ok (.astore_n 2, 1) := by decide +kernel
theorem dX14_close_20 : decode cX14_close 20 = .ok (.aload_n 2, 1) := by decide +kernel
theorem dX14_close_21 : decode cX14_close 21 = .ok (.ifnonnull 4, 3) := by decide +kernel
theorem dX14_close_24 : decode cX14_close 24 = .ok (.return_, 1) := by decide +kernel
theorem dX14_close_25 : decode cX14_close 25 = .ok (.aload_n 0, 1) := by decide +kernel
theorem dX14_close_26 : decode cX14_close 26 = .ok (.aload_n 2, 1) := by decide +kernel
theorem dX14_close_27 : decode cX14_close 27 = .ok (.invokevirtual 577, 3) := by decide +kernel
theorem dX14_close_30 : decode cX14_close 30 = .ok (.aload_n 0, 1) := by decide +kernel
theorem dX14_close_31 : decode cX14_close 31 = .ok (.aload_n 2, 1) := by decide +kernel
theorem dX14_close_32 : decode cX14_close 32 = .ok (.invokevirtual 602, 3) := by decide +kernel
theorem dX14_close_35 : decode cX14_close 35 = .ok (.aload_n 0, 1) := by decide +kernel
theorem dX14_close_36 : decode cX14_close 36 = .ok (.invokevirtual 605, 3) := by decide +kernel
theorem dX14_close_39 : decode cX14_close 39 = .ok (.iconst 0, 1) := by decide +kernel
theorem dX14_close_40 : decode cX14_close 40 = .ok (.istore_n 3, 1) := by decide +kernel
theorem dX14_close_41 : decode cX14_close 41 = .ok (.iload_n 3, 1) := by decide +kernel
theorem dX14_close_42 : decode cX14_close 42 = .ok (.iconst 2, 1) := by decide +kernel
theorem dX14_close_43 : decode cX14_close 43 = .ok (.if_icmp .ge 26, 3) := by decide +kernel
theorem dX14_close_46 : decode cX14_close 46 = .ok (.aload_n 0, 1) := by decide +kernel
theorem dX14_close_47 : decode cX14_close 47 = .ok (.getfield 129, 3) := by decide +kernel
theorem dX14_close_50 : decode cX14_close 50 = .ok (.iload_n 3, 1) := by decide +kernel
theorem dX14_close_51 : decode cX14_close 51 = .ok (.aaload, 1) := by decide +kernel
theorem dX14_close_52 : decode cX14_close 52 = .ok (.aload_n 2, 1) := by decide +kernel
theorem dX14_close_53 : decode cX14_close 53 = .ok (.if_acmp .ne 10, 3) := by decide +kernel
theorem dX14_close_56 : decode cX14_close 56 = .ok (.aload_n 0, 1) := by decide +kernel
theorem dX14_close_57 : decode cX14_close 57 = .ok (.getfield 129, 3) := by decide +kernel
theorem dX14_close_60 : decode cX14_close 60 = .ok (.iload_n 3, 1) := by decide +kernel
theorem dX14_close_61 : decode cX14_close 61 = .ok (.aconst_null, 1) := by decide +kernel
theorem dX14_close_62 : decode cX14_close 62 = .ok (.aastore, 1) := by decide +kernel
theorem dX14_close_63 : decode cX14_close 63 = .ok (.iinc 3 1, 3) := by decide +kernel
theorem dX14_close_66 : decode cX14_close 66 = .ok (.goto (-25), 3) := by decide +kernel
theorem dX14_close_69 : decode cX14_close 69 = .ok (.iconst 0, 1) := by decide +kernel
theorem dX14_close_70 : decode cX14_close 70 = .ok (.istore_n 3, 1) := by decide +kernel
theorem dX14_close_71 : decode cX14_close 71 = .ok (.aload_n 0, 1) := by decide +kernel
theorem dX14_close_72 : decode cX14_close 72 = .ok (.getfield 74, 3) := by decide +kernel
theorem dX14_close_75 : decode cX14_close 75 = .ok (.iload_n 3, 1) := by decide +kernel
theorem dX14_close_76 : decode cX14_close 76 = .ok (.aaload, 1) := by decide +kernel
theorem dX14_close_77 : decode cX14_close 77 = .ok (.aload_n 2, 1) := by decide +kernel
theorem dX14_close_78 : decode cX14_close 78 = .ok (.if_acmp .eq 9, 3) := by decide +kernel
theorem dX14_close_81 : decode cX14_close 81 = .ok (.iinc 3 1, 3) := by decide +kernel
theorem dX14_close_84 : decode cX14_close 84 = .ok (.goto (-13), 3) := by decide +kernel
theorem dX14_close_87 : decode cX14_close 87 = .ok (.iload_n 3, 1) := by decide +kernel
theorem dX14_close_88 : decode cX14_close 88 = .ok (.istore 4, 2) := by decide +kernel
theorem dX14_close_90 : decode cX14_close 90 = .ok (.iload 4, 2) := by decide +kernel
theorem dX14_close_92 : decode cX14_close 92 = .ok (.iconst 1, 1) := by decide +kernel
theorem dX14_close_93 : decode cX14_close 93 = .ok (.iadd, 1) := by decide +kernel
theorem dX14_close_94 : decode cX14_close 94 = .ok (.aload_n 0, 1) := by decide +kernel
theorem dX14_close_95 : decode cX14_close 95 = .ok (.getfield 505, 3) := by decide +kernel
theorem dX14_close_98 : decode cX14_close 98 = .ok (.if_icmp .ge 25, 3) := by decide +kernel
theorem dX14_close_101 : decode cX14_close 101 = .ok (.aload_n 0, 1) := by decide +kernel
theorem dX14_close_102 : decode cX14_close 102 = .ok (.getfield 74, 3) := by decide +kernel
theorem dX14_close_105 : decode cX14_close 105 = .ok (.iload 4, 2) := by decide +kernel
theorem dX14_close_107 : decode cX14_close 107 = .ok (.aload_n 0, 1) := by decide +kernel
theorem dX14_close_108 : decode cX14_close 108 = .ok (.getfield 74, 3) := by decide +kernel
theorem dX14_close_111 : decode cX14_close 111 = .ok (.iload 4, 2) := by decide +kernel
theorem dX14_close_113 : decode cX14_close 113 = .ok (.iconst 1, 1) := by decide +kernel
theorem dX14_close_114 : decode cX14_close 114 = .ok (.iadd, 1) := by decide +kernel
theorem dX14_close_115 : decode cX14_close 115 = .ok (.aaload, 1) := by decide +kernel
theorem dX14_close_116 : decode cX14_close 116 = .ok (.aastore, 1) := by decide +kernel
theorem dX14_close_117 : decode cX14_close 117 = .ok (.iinc 4 1, 3) := by decide +kernel
theorem dX14_close_120 : decode cX14_close 120 = .ok (.goto (-30), 3) := by decide +kernel
theorem dX14_close_123 : decode cX14_close 123 = .ok (.aload_n 0, 1) := by decide +kernel
theorem dX14_close_124 : decode cX14_close 124 = .ok (.getfield 74, 3) := by decide +kernel
theorem dX14_close_127 : decode cX14_close 127 = .ok (.aload_n 0, 1) := by decide +kernel
theorem dX14_close_128 : decode cX14_close 128 = .ok (.getfield 505, 3) := by decide +kernel
theorem dX14_close_131 : decode cX14_close 131 = .ok (.iconst 1, 1) := by decide +kernel
theorem dX14_close_132 : decode cX14_close 132 = .ok (.isub, 1) := by decide +kernel
theorem dX14_close_133 : decode cX14_close 133 = .ok (.aload_n 2, 1) := by decide +kernel
theorem dX14_close_134 : decode cX14_close 134 = .ok (.aastore, 1) := by decide +kernel
theorem dX14_close_135 : decode cX14_close 135 = .ok (.aload_n 0, 1) := by decide +kernel
theorem dX14_close_136 : decode cX14_close 136 = .ok (.dup, 1) := by decide +kernel
theorem dX14_close_137 : decode cX14_close 137 = .ok (.getfield 505, 3) := by decide +kernel
theorem dX14_close_140 : decode cX14_close 140 = .ok (.iconst 1, 1) := by decide +kernel
theorem dX14_close_141 : decode cX14_close 141 = .ok (.isub, 1) := by decide +kernel
theorem dX14_close_142 : decode cX14_close 142 = .ok (.putfield 505, 3) := by decide +kernel
theorem dX14_close_145 : decode cX14_close 145 = .ok (.return_, 1) := by decide +kernel
end
section
theorem dX14_message_0 : decode cX14_message 0 = .ok (.aload_n 0, 1) := by decide +kernel
theorem dX14_message_1 : decode cX14_message 1 = .ok (.iconst 0, 1) := by decide +kernel
theorem dX14_message_2 : decode cX14_message 2 = .ok (.putfield 273, 3) := by decide +kernel
theorem dX14_message_5 : decode cX14_message 5 = .ok (.aload_n 0, 1) := by decide +kernel
theorem dX14_message_6 : decode cX14_message 6 = .ok (.iload_n 1, 1) := by decide +kernel
theorem dX14_message_7 : decode cX14_message 7 = .ok (.putfield 276, 3) := by decide +kernel
theorem dX14_message_10 : decode cX14_message 10 = .ok (.aload_n 0, 1) := by decide +kernel
theorem dX14_message_11 : decode cX14_message 11 = .ok (.iconst 0, 1) := by decide +kernel
theorem dX14_message_12 : decode cX14_message 12 = .ok (.putfield 282, 3) := by decide +kernel
theorem dX14_message_15 : decode cX14_message 15 = .ok (.aload_n 0, 1) := by decide +kernel
theorem dX14_message_16 : decode cX14_message 16 = .ok (.iconst 0, 1) := by decide +kernel
theorem dX14_message_17 : decode cX14_message 17 = .ok (.putfield 304, 3) := by decide +kernel
theorem dX14_message_20 : decode cX14_message 20 = .ok (.aload_n 0, 1) := by decide +kernel
theorem dX14_message_21 : decode cX14_message 21 = .ok (.iconst 0, 1) := by decide +kernel
theorem dX14_message_22 : decode cX14_message 22 = .ok (.putfield 288, 3) := by decide +kernel
theorem dX14_message_25 : decode cX14_message 25 = .ok (.aload_n 0, 1) := by decide +kernel
theorem dX14_message_26 : decode cX14_message 26 = .ok (.iconst 0, 1) := by decide +kernel
theorem dX14_message_27 : decode cX14_message 27 = .ok (.invokevirtual 361, 3) := by decide +kernel
theorem dX14_message_30 : decode cX14_message 30 = .ok (.istore_n 2, 1) := by decide +kernel
theorem dX14_message_31 : decode cX14_message 31 = .ok (.aload_n 0, 1) := by decide +kernel
theorem dX14_message_32 : decode cX14_message 32 = .ok (.invokevirtual 285, 3) := by decide +kernel
theorem dX14_message_35 : decode cX14_message 35 = .ok (.aload_n 0, 1) := by decide +kernel
theorem dX14_message_36 : decode cX14_message 36 = .ok (.getfield 288, 3) := by decide +kernel
theorem dX14_message_39 : decode cX14_message 39 = .ok (.ifCond .ne 14, 3) := by decide +kernel
theorem dX14_message_42 : decode cX14_message 42 = .ok (.aload_n 0, 1) := by decide +kernel
theorem dX14_message_43 : decode cX14_message 43 = .ok (.getfield 273, 3) := by decide +kernel
theorem dX14_message_46 : decode cX14_message 46 = .ok (.aload_n 0, 1) := by decide +kernel
theorem dX14_message_47 : decode cX14_message 47 = .ok (.getfield 276, 3) := by decide +kernel
theorem dX14_message_50 : decode cX14_message 50 = .ok (.if_icmp .eq 16, 3) := by decide +kernel
theorem dX14_message_53 : decode cX14_message 53 = .ok (.aload_n 0, 1) := by decide +kernel
theorem dX14_message_54 : decode cX14_message 54 = .ok (.iconst 1, 1) := by decide +kernel
theorem dX14_message_55 : decode cX14_message 55 = .ok (.putfield 374, 3) := by decide +kernel
theorem dX14_message_58 : decode cX14_message 58 = .ok (.aload_n 0, 1) := by decide +kernel
theorem dX14_message_59 : decode cX14_message 59 = .ok (.sipush (-32700), 3) := by decide +kernel
theorem dX14_message_62 : decode cX14_message 62 = .ok (.invokevirtual 425, 3) := by decide +kernel
theorem dX14_message_65 : decode cX14_message 65 = .ok (.return_, 1) := by decide +kernel
theorem dX14_message_66 : decode cX14_message 66 = .ok (.aload_n 0, 1) := by decide +kernel
theorem dX14_message_67 : decode cX14_message 67 = .ok (.iload_n 2, 1) := by decide +kernel
theorem dX14_message_68 : decode cX14_message 68 = .ok (.ldc_w 428, 3) := by decide +kernel
theorem dX14_message_71 : decode cX14_message 71 = .ok (.invokevirtual 430, 3) := by decide +kernel
theorem dX14_message_74 : decode cX14_message 74 = .ok (.istore_n 3, 1) := by decide +kernel
theorem dX14_message_75 : decode cX14_message 75 = .ok (.aload_n 0, 1) := by decide +kernel
theorem dX14_message_76 : decode cX14_message 76 = .ok (.iload_n 2, 1) := by decide +kernel
theorem dX14_message_77 : decode cX14_message 77 = .ok (.ldc_w 434, 3) := by decide +kernel
theorem dX14_message_80 : decode cX14_message 80 = .ok (.invokevirtual 430, 3) := by decide +kernel
theorem dX14_message_83 : decode cX14_message 83 = .ok (.istore 4, 2) := by decide +kernel
theorem dX14_message_85 : decode cX14_message 85 = .ok (.aload_n 0, 1) := by decide +kernel
theorem dX14_message_86 : decode cX14_message 86 = .ok (.iload_n 2, 1) := by decide +kernel
theorem dX14_message_87 : decode cX14_message 87 = .ok (.ldc_w 436, 3) := by decide +kernel
theorem dX14_message_90 : decode cX14_message 90 = .ok (.invokevirtual 430, 3) := by decide +kernel
theorem dX14_message_93 : decode cX14_message 93 = .ok (.istore 5, 2) := by decide +kernel
theorem dX14_message_95 : decode cX14_message 95 = .ok (.aload_n 0, 1) := by decide +kernel
theorem dX14_message_96 : decode cX14_message 96 = .ok (.aload_n 0, 1) := by decide +kernel
theorem dX14_message_97 : decode cX14_message 97 = .ok (.iload_n 2, 1) := by decide +kernel
theorem dX14_message_98 : decode cX14_message 98 = .ok (.ldc_w 438, 3) := by decide +kernel
theorem dX14_message_101 : decode cX14_message 101 = .ok (.invokevirtual 430, 3) := by decide +kernel
theorem dX14_message_104 : decode cX14_message 104 = .ok (.ldc_w 440, 3) := by decide +kernel
theorem dX14_message_107 : decode cX14_message 107 = .ok (.invokevirtual 442, 3) := by decide +kernel
theorem dX14_message_110 : decode cX14_message 110 = .ok (.ifCond .eq 45, 3) := by decide +kernel
theorem dX14_message_113 : decode cX14_message 113 = .ok (.aload_n 0, 1) := by decide +kernel
theorem dX14_message_114 : decode cX14_message 114 = .ok (.iload 4, 2) := by decide +kernel
theorem dX14_message_116 : decode cX14_message 116 = .ok (.invokevirtual 368, 3) := by decide +kernel
theorem dX14_message_119 : decode cX14_message 119 = .ok (.ifCond .eq 36, 3) := by decide +kernel
theorem dX14_message_122 : decode cX14_message 122 = .ok (.iload_n 3, 1) := by decide +kernel
theorem dX14_message_123 : decode cX14_message 123 = .ok (.ifCond .lt 11, 3) := by decide +kernel
theorem dX14_message_126 : decode cX14_message 126 = .ok (.aload_n 0, 1) := by decide +kernel
theorem dX14_message_127 : decode cX14_message 127 = .ok (.iload_n 3, 1) := by decide +kernel
theorem dX14_message_128 : decode cX14_message 128 = .ok (.invokevirtual 445, 3) := by decide +kernel
theorem dX14_message_131 : decode cX14_message 131 = .ok (.ifCond .eq 24, 3) := by decide +kernel
theorem dX14_message_134 : decode cX14_message 134 = .ok (.iload 5, 2) := by decide +kernel
theorem dX14_message_136 : decode cX14_message 136 = .ok (.ifCond .lt 15, 3) := by decide +kernel
theorem dX14_message_139 : decode cX14_message 139 = .ok (.aload_n 0, 1) := by decide +kernel
theorem dX14_message_140 : decode cX14_message 140 = .ok (.getfield 37, 3) := by decide +kernel
theorem dX14_message_143 : decode cX14_message 143 = .ok (.iload 5, 2) := by decide +kernel
theorem dX14_message_145 : decode cX14_message 145 = .ok (.iaload, 1) := by decide +kernel
theorem dX14_message_146 : decode cX14_message 146 = .ok (.bipush 6, 2) := by decide +kernel
theorem dX14_message_148 : decode cX14_message 148 = .ok (.if_icmp .ne 7, 3) := by decide +kernel
theorem dX14_message_151 : decode cX14_message 151 = .ok (.iconst 1, 1) := by decide +kernel
theorem dX14_message_152 : decode cX14_message 152 = .ok (.goto 4, 3) := by decide +kernel
theorem dX14_message_155 : decode cX14_message 155 = .ok (.iconst 0, 1) := by decide +kernel
theorem dX14_message_156 : decode cX14_message 156 = .ok (.istore 6, 2) := by decide +kernel
theorem dX14_message_158 : decode cX14_message 158 = .ok (.aload_n 0, 1) := by decide +kernel
theorem dX14_message_159 : decode cX14_message 159 = .ok (.iload_n 3, 1) := by decide +kernel
theorem dX14_message_160 : decode cX14_message 160 = .ok (.ifCond .lt 15, 3) := by decide +kernel
theorem dX14_message_163 : decode cX14_message 163 = .ok (.aload_n 0, 1) := by decide +kernel
theorem dX14_message_164 : decode cX14_message 164 = .ok (.iload_n 3, 1) := by decide +kernel
theorem dX14_message_165 : decode cX14_message 165 = .ok (.invokevirtual 445, 3) := by decide +kernel
theorem dX14_message_168 : decode cX14_message 168 = .ok (.ifCond .eq 7, 3) := by decide +kernel
theorem dX14_message_171 : decode cX14_message 171 = .ok (.iload_n 3, 1) := by decide +kernel
theorem dX14_message_172 : decode cX14_message 172 = .ok (.goto 4, 3) := by decide +kernel
theorem dX14_message_175 : decode cX14_message 175 = .ok (.iconst (-1), 1) := by decide +kernel
theorem dX14_message_176 : decode cX14_message 176 = .ok (.invokevirtual 448, 3) := by decide +kernel
theorem dX14_message_179 : decode cX14_message 179 = .ok (.iload 6, 2) := by decide +kernel
theorem dX14_message_181 : decode cX14_message 181 = .ok (.ifCond .ne 13, 3) := by decide +kernel
theorem dX14_message_184 : decode cX14_message 184 = .ok (.aload_n 0, 1) := by decide +kernel
theorem dX14_message_185 : decode cX14_message 185 = .ok (.sipush (-32600), 3) := by decide +kernel
theorem dX14_message_188 : decode cX14_message 188 = .ok (.invokevirtual 425, 3) := by decide +kernel
theorem dX14_message_191 : decode cX14_message 191 = .ok (.goto 26, 3) := by decide +kernel
theorem dX14_message_194 : decode cX14_message 194 = .ok (.iload_n 3, 1) := by decide +kernel
theorem dX14_message_195 : decode cX14_message 195 = .ok (.ifCond .ge 14, 3) := by decide +kernel
theorem dX14_message_198 : decode cX14_message 198 = .ok (.aload_n 0, 1) := by decide +kernel
theorem dX14_message_199 : decode cX14_message 199 = .ok (.iload 4, 2) := by decide +kernel
theorem dX14_message_201 : decode cX14_message 201 = .ok (.iload 5, 2) := by decide +kernel
theorem dX14_message_203 : decode cX14_message 203 = .ok (.invokevirtual 451, 3) := by decide +kernel
theorem dX14_message_206 : decode cX14_message 206 = .ok (.goto 11, 3) := by decide +kernel
theorem dX14_message_209 : decode cX14_message 209 = .ok (.aload_n 0, 1) := by decide +kernel
theorem dX14_message_210 : decode cX14_message 210 = .ok (.iload 4, 2) := by decide +kernel
theorem dX14_message_212 : decode cX14_message 212 = .ok (.iload 5, 2) := by decide +kernel
theorem dX14_message_214 : decode cX14_message 214 = .ok (.invokevirtual 455, 3) := by decide +kernel
theorem dX14_message_217 : decode cX14_message 217 = .ok (.return_, 1) := by decide +kernel
theorem dX14_notified_0 : decode cX14_notified 0 = .ok (.aload_n 0, 1) := by decide +kernel
theorem dX14_notified_1 : decode cX14_notified 1 = .ok (.iload_n 1, 1) := by decide +kernel
theorem dX14_notified_2 : decode cX14_notified 2 = .ok (.ldc_w 483, 3) := by decide +kernel
theorem dX14_notified_5 : decode cX14_notified 5 = .ok (.invokevirtual 442, 3) := by decide +kernel
theorem dX14_notified_8 : decode cX14_notified 8 = .ok (.ifCond .eq 9, 3) := by decide +kernel
theorem dX14_notified_11 : decode cX14_notified 11 = .ok (.aload_n 0, 1) := by decide +kernel
theorem dX14_notified_12 : decode cX14_notified 12 = .ok (.iconst 1, 1) := by decide +kernel
theorem dX14_notified_13 : decode cX14_notified 13 = .ok (.putfield 202, 3) := by decide +kernel
theorem dX14_notified_16 : decode cX14_notified 16 = .ok (.return_, 1) := by decide +kernel
theorem dX14_notified_17 : decode cX14_notified 17 = .ok (.aload_n 0, 1) := by decide +kernel
theorem dX14_notified_18 : decode cX14_notified 18 = .ok (.getfield 460, 3) := by decide +kernel
theorem dX14_notified_21 : decode cX14_notified 21 = .ok (.ifCond .eq 10, 3) := by decide +kernel
theorem dX14_notified_24 : decode cX14_notified 24 = .ok (.aload_n 0, 1) := by decide +kernel
theorem dX14_notified_25 : decode cX14_notified 25 = .ok (.getfield 463, 3) := by decide +kernel
theorem dX14_notified_28 : decode cX14_notified 28 = .ok (.ifCond .eq 4, 3) := by decide +kernel
theorem dX14_notified_31 : decode cX14_notified 31 = .ok (.return_, 1) := by decide +kernel
theorem dX14_notified_32 : decode cX14_notified 32 = .ok (.aload_n 0, 1) := by decide +kernel
theorem dX14_notified_33 : decode cX14_notified 33 = .ok (.iload_n 1, 1) := by decide +kernel
theorem dX14_notified_34 : decode cX14_notified 34 = .ok (.ldc_w 485, 3) := by decide +kernel
theorem dX14_notified_37 : decode cX14_notified 37 = .ok (.invokevirtual 442, 3) := by decide +kernel
theorem dX14_notified_40 : decode cX14_notified 40 = .ok (.ifCond .eq 11, 3) := by decide +kernel
theorem dX14_notified_43 : decode cX14_notified 43 = .ok (.aload_n 0, 1) := by decide +kernel
theorem dX14_notified_44 : decode cX14_notified 44 = .ok (.iload_n 2, 1) := by decide +kernel
theorem dX14_notified_45 : decode cX14_notified 45 = .ok (.invokevirtual 487, 3) := by decide +kernel
theorem dX14_notified_48 : decode cX14_notified 48 = .ok (.goto 57, 3) := by decide +kernel
theorem dX14_notified_51 : decode cX14_notified 51 = .ok (.aload_n 0, 1) := by decide +kernel
theorem dX14_notified_52 : decode cX14_notified 52 = .ok (.iload_n 1, 1) := by decide +kernel
theorem dX14_notified_53 : decode cX14_notified 53 = .ok (.ldc_w 490, 3) := by decide +kernel
theorem dX14_notified_56 : decode cX14_notified 56 = .ok (.invokevirtual 442, 3) := by decide +kernel
theorem dX14_notified_59 : decode cX14_notified 59 = .ok (.ifCond .eq 11, 3) := by decide +kernel
theorem dX14_notified_62 : decode cX14_notified 62 = .ok (.aload_n 0, 1) := by decide +kernel
theorem dX14_notified_63 : decode cX14_notified 63 = .ok (.iload_n 2, 1) := by decide +kernel
theorem dX14_notified_64 : decode cX14_notified 64 = .ok (.invokevirtual 492, 3) := by decide +kernel
theorem dX14_notified_67 : decode cX14_notified 67 = .ok (.goto 38, 3) := by decide +kernel
theorem dX14_notified_70 : decode cX14_notified 70 = .ok (.aload_n 0, 1) := by decide +kernel
theorem dX14_notified_71 : decode cX14_notified 71 = .ok (.iload_n 1, 1) := by decide +kernel
theorem dX14_notified_72 : decode cX14_notified 72 = .ok (.ldc_w 495, 3) := by decide +kernel
theorem dX14_notified_75 : decode cX14_notified 75 = .ok (.invokevirtual 442, 3) := by decide +kernel
theorem dX14_notified_78 : decode cX14_notified 78 = .ok (.ifCond .eq 11, 3) := by decide +kernel
theorem dX14_notified_81 : decode cX14_notified 81 = .ok (.aload_n 0, 1) := by decide +kernel
theorem dX14_notified_82 : decode cX14_notified 82 = .ok (.iload_n 2, 1) := by decide +kernel
theorem dX14_notified_83 : decode cX14_notified 83 = .ok (.invokevirtual 497, 3) := by decide +kernel
theorem dX14_notified_86 : decode cX14_notified 86 = .ok (.goto 19, 3) := by decide +kernel
theorem dX14_notified_89 : decode cX14_notified 89 = .ok (.aload_n 0, 1) := by decide +kernel
theorem dX14_notified_90 : decode cX14_notified 90 = .ok (.iload_n 1, 1) := by decide +kernel
theorem dX14_notified_91 : decode cX14_notified 91 = .ok (.ldc_w 500, 3) := by decide +kernel
theorem dX14_notified_94 : decode cX14_notified 94 = .ok (.invokevirtual 442, 3) := by decide +kernel
theorem dX14_notified_97 : decode cX14_notified 97 = .ok (.ifCond .eq 8, 3) := by decide +kernel
theorem dX14_notified_100 : decode cX14_notified 100 = .ok (.aload_n 0, 1) := by decide +kernel
theorem dX14_notified_101 : decode cX14_notified 101 = .ok (.iload_n 2, 1) := by decide +kernel
theorem dX14_notified_102 : decode cX14_notified 102 = .ok (.invokevirtual 502, 3) := by decide +kernel
theorem dX14_notified_105 : decode cX14_notified 105 = .ok (.return_, 1) := by decide +kernel
end
section
-- super's methods; bytes whose contents are known; the numbers that signs tell
theorem jgU {h : Cond} {own : String} {idx : Nat} {y : MethodName} {c : ByteArray} {n : Nat} {r : Option FieldType} (h1 : Cond.methodLink own idx y ∈ jWl) (h2 : Cond.sameMethod y.cls y.cls y.name y.desc ∈ jWl) (h3 : Cond.superclass own y.cls ∈ jWl) (h4 : Cond.instanceMethod y ∈ jWl) (h5 : Cond.initialized y.cls ∈ jWl) (hc : Cond.code y c n r ∈ jWl) : GoodIn (h :: jWl) (va_wsSU own idx y (jw y c n r)) :=
  jgL (fun w hw => by
    rcases List.mem_cons.mp hw with e | hw
    · rw [e]; exact h1
    rcases List.mem_cons.mp hw with e | hw
    · rw [e]; exact h2
    rcases List.mem_cons.mp hw with e | hw
    · rw [e]; exact h3
    rcases List.mem_cons.mp hw with e | hw
    · rw [e]; exact h4
    rw [List.mem_singleton.mp hw]; exact h5) (jgW hc)
theorem j7_baldM {p : Program} {l : Launch} {e : Env} {R : Room} {s : State} {m : MethodId} {args : Array Value} {below : List Frame} {meth : Method} {c : Code} {H : Heap} {locs : List Loc} {cells slots : Nat} {Q : State → Prop} {cc : ByteArray} {pc : Nat} {ls : Array Slot} {rest : List Value} {dC : Nat → ClassId} {dI : Nat → Nat → Nat} {B : jF} {base : Nat} {G0 G : jT} {E : List (Nat × Nat)} {H0 : Heap} {zc zs : Nat} {L : List jPin} {M : List jCt} {I : List jIv} {a k n : Nat} {P : Nat → Int32 → Prop} {cA : ClassId} {tys : List (ClassId × FieldType)} (hexec : p.tables.exec = Jvm.exec) (hb : c.code = cc) (hK : va_K (dC, dI) vwCl tys s) (hh : jSt (dC, dI) B base G0 G E H0 zc zs L M I H locs) (hBk : ∀ n G a H, B k n G a H ↔ jAr (dC, dI) cA P n a H) (t0 : Nat) (ht : tys[t0]? = some (cA, .byte)) (hk : k < 1000) (ha : G a = some (k, n)) {i : Int32} {x : Int} (hi : i.toInt = x) (h12 : 0 ≤ x ∧ x < n) {j : Nat} {kk1 : Nat} {cB : ClassId} {f : Nat → Int32} (hj : M[j]? = some (a, kk1, n, cB, f)) (hdg : decode cc pc = .ok (.baload, 1))
    (kk : ∀ z : Int32, z = f x.toNat → P x.toNat z → W p l e R s m args below meth c H locs cells slots Q (F0 m (pc + 1) ls (.int z :: rest))) : W p l e R s m args below meth c H locs cells slots Q (F0 m pc ls (.int i :: .ref a :: rest)) := by
  obtain ⟨h1, h2⟩ := h12
  obtain ⟨f', g1, g2⟩ := hh.ar hBk hk ha
  obtain ⟨-, -, -, q4⟩ := hh.2.2.2.2.2.2.2.1 _ (List.mem_of_getElem? hj)
  have hlt := jb_cl_lt hi h1 h2
  have hP := g2 _ hlt
  have e1 := jCt_eq q4 g1 hlt
  rw [jb_cl hi h1] at e1 hP
  exact va_bald hexec hb hK (jp_one g1) 0 t0 rfl ht (jb_in hi h1 h2) hdg (by rw [jb_cl hi h1]; exact kk _ e1.symm hP)
theorem jNm_s {f : Nat → Int32} {k : Int} {m : Nat} {v w c : Int} (h : v = jNm f k.toNat) (h0 : 0 ≤ k) (hc : c = (jCv (f k.toNat)).toInt) (hw : w = 10 * v + c - 48) (e : m = k.toNat + 1) : w = jNm f m := by
  subst e
  have : jNm f (k.toNat + 1) = 10 * jNm f k.toNat + ((jCv (f k.toNat)).toInt - 48) := rfl
  rw [this, ← h, ← hc]; omega
theorem jDg.snoc {f : Nat → Int32} {k k1 c : Int} (h : jDg f k) (hc : c = (jCv (f k.toNat)).toInt) (h1 : 48 ≤ c) (h2 : c ≤ 57) (e : k1 = k + 1) : jDg f k1 := fun i q0 q1 => by
  by_cases q : i = k
  · rw [q, ← hc]; exact ⟨h1, h2⟩
  · exact h i q0 (by omega)
theorem arrV_cg {cA : ClassId} {n : Nat} {f g : Nat → Value} (h : ∀ j, j < n → f j = g j) : arrV cA n f = arrV cA n g := by
  unfold arrV
  congr 1
  congr 1
  funext j
  exact h j.val j.isLt
section J18
variable {p : Program} {l : Launch} {e : Env} {R : Room} {s : State} {m : MethodId} {args : Array Value} {below : List Frame} {meth : Method} {c : Code} {H : Heap} {locs : List Loc} {cells slots : Nat} {Q : State → Prop}
variable {cc : ByteArray} {pc : Nat} {ls : Array Slot} {rest : List Value} {dC : Nat → ClassId} {dI : Nat → Nat → Nat} {ca : Nat → ClassId} {B : jF} {base : Nat} {G0 G : jT} {E : List (Nat × Nat)} {H0 : Heap} {zc zs : Nat} {L : List jPin} {M : List jCt} {I : List jIv} {a k n : Nat} {cA : ClassId} {tys : List (ClassId × FieldType)}
theorem jSt.byt (hh : jSt (dC, dI) B base G0 G E H0 zc zs L M I H locs) (hBk : ∀ n G a H, B k n G a H ↔ jAr (dC, dI) cA jBf n a H) (hk : k < 1000) (ha : G a = some (k, n)) : ∃ f : Nat → Int32, va_at (dC, dI) vwCl (a, .inl (cA, n, .inl f)) H ∧ sb_Fit f := by
  obtain ⟨f, g1, g2⟩ := hh.ar hBk hk ha
  refine ⟨fun j => if j < n then f j else 0, ?_, fun j => ?_⟩
  · have e1 : H[a]? = some (vp_cell cA (n, .inl f)) := g1
    show H[a]? = some (vp_cell cA (n, .inl _))
    rw [e1, vp_cell_i, vp_cell_i]
    congr 1
    exact arrV_cg (fun j hj => by simp only [if_pos hj])
  · by_cases q : j < n
    · simp only [if_pos q]; exact g2 j q
    · simp only [if_neg q]; rfl
end J18
end
section
-- what a method writes of one object only: the others of its kind keep their fields
theorem jnek {G : jT} {a b k n k1 n1 : Nat} (h : G a = some (k, n)) (h1 : G b = some (k1, n1)) (hn : ((k, n) == (k1, n1)) = false) : a ≠ b := fun e => by
  rw [e, h1] at h
  rw [Option.some.inj h] at hn
  simp at hn
section J19
variable {p : Program} {l : Launch} {e : Env} {R : Room} {s : State} {m : MethodId} {args : Array Value} {below : List Frame} {meth : Method} {c : Code} {H : Heap} {locs : List Loc} {cells slots : Nat} {Q : State → Prop}
variable {cc : ByteArray} {pc : Nat} {ls : Array Slot} {rest : List Value} {dC : Nat → ClassId} {dI : Nat → Nat → Nat} {ca : Nat → ClassId} {B : jF} {base : Nat} {G0 G : jT} {E : List (Nat × Nat)} {H0 : Heap} {zc zs : Nat} {L : List jPin} {M : List jCt} {I : List jIv} {a k n i index N : Nat} {tys : List (ClassId × FieldType)} {own C : String} {T : u_T}
theorem j7_putX (hexec : p.tables.exec = Jvm.exec) (hb : c.code = cc) (hown : s.vm.findClass own = some m.cls) (hK : va_K (dC, dI) vwCl tys s) (hh : jSt (dC, dI) B base G0 G E H0 zc zs L M I H locs) (hB : jBok B) (hAp : jAp (dC, dI)) {F : Nat → jT → List (Value → Prop)} (hBk : ∀ n G a H, B k n G a H ↔ jOb (dC, dI) k N (F n G) a H) (hc : vwCl[k]? = some (C, T, N)) (hk : k < 1000) (ha : G a = some (k, n)) (hi : i < N) (hlay : (u_lay C T i).before args s = true) (hfin : (T i).2.2.2 = false) (hlink : (Cond.fieldLink own index (T i).1 (T i).2.1 (T i).2.2.1).before args s = true) {P : Value → Prop} (hp : (F n G)[i]? = some P) {ty : FieldType} {v : Value} (hd : parseFieldDescriptor (T i).2.2.1 = some ty) (hnar : narrow ty v = v) (hfit : fits ty v = true) (hv : P v) (hE : E.contains (k, i) = true)
    {L1 : List jPin} (is : List Nat) (hs : is.map (fun i => L[i]?) = L1.map some) (hn : L1.all (fun q => !(q.2.1 == k && q.2.2.1 == i)) = true) (hI : I.all (fun q => !(q.1.contains (k, i))) = true) (hdg : decode cc pc = .ok (.putfield index, 3))
    (kk : ∀ (H1 : Heap) (locs1 : List Loc), (∀ q, q ≠ a → H1[q]? = H[q]?) → jSt (dC, dI) B base G0 G E H0 zc zs ((a, k, i, v) :: L1) M I H1 locs1 → W p l e R s m args below meth c H1 locs1 cells slots Q (F0 m (pc + 3) ls rest)) : W p l e R s m args below meth c H locs cells slots Q (F0 m pc ls (v :: .ref a :: rest)) := by
  obtain ⟨V, ⟨cell, q1, q2, q3, q4⟩, hV⟩ := (hBk _ _ _ _).mp (hh.2.1.1 a k n ha hk (fun h => by cases h))
  obtain ⟨hS, hfc, kC, hkC, hkind⟩ := hK.1 k _ hc
  obtain ⟨cf, kf, fi, f, hfi, hsl⟩ := hS i hi
  have hst := (u_facts hfc hkC (j7_lay hlay) hfi).1
  unfold u_lay at hlay
  rw [if_neg (by rw [hfin]; decide)] at hlay
  have h6 := u_store hfc hkC hkind hlay hfi hd hnar hfit
  refine W.putK hexec hb (f := f) ⟨hown, hlink, ⟨_, _, _, hfi⟩, hst⟩ (by rw [q2]; exact h6) q1 q3 (by rw [hsl]; exact k2_hasslot (q4 i hi)) rfl rfl hdg fun H1 e1 e2 e3 => ?_
  rw [hsl] at e1 ⊢
  refine kk H1 _ e3 (hh.fld hB hAp hBk hc hk ha hi hp hv hE is hs hn hI q1 e1 e2 e3 (jTot_set e2 q1 e1 (jSet_sz _ _ _) e3) (fun q hq => ?_))
  rcases List.mem_append.mp hq with h | h
  · exact hh.1.2.2 q h
  · cases List.mem_singleton.mp h; exact (hh.ab ha).1
end J19
theorem jb_i2c {x z : Int32} (e : z = (x.toUInt32 % 65536).toInt32) (h0 : 0 ≤ x.toInt) (h1 : x.toInt ≤ 255) : z.toInt = x.toInt := by
  rw [e]
  have h := jb_nch h0 h1
  first
    | exact congrArg Int32.toInt (Value.int.inj h)
    | (unfold narrow at h; exact congrArg Int32.toInt (Value.int.inj h))
    | (simp only [narrow] at h; exact congrArg Int32.toInt (Value.int.inj h))
theorem jNm_0 {f : Nat → Int32} {k : Int} (h : jDg f k) : ∀ n : Nat, (n : Int) ≤ k → 0 ≤ jNm f n
  | 0, _ => Int.le_refl 0
  | n + 1, hn => by
    have h1 := jNm_0 h n (by omega)
    have h2 := h (n : Int) (by omega) (by omega)
    have e : jNm f (n + 1) = 10 * jNm f n + ((jCv (f n)).toInt - 48) := rfl
    have e2 : ((n : Int)).toNat = n := by omega
    rw [e2] at h2
    rw [e]
    omega
end
section
theorem dJ5_length_8abf5_0 : decode cJ5_length_8abf5 0 = .ok (.aload_n 0, 1) := by decide +kernel
theorem dJ5_length_8abf5_1 : decode cJ5_length_8abf5 1 = .ok (.getfield 79, 3) := by decide +kernel
theorem dJ5_length_8abf5_4 : decode cJ5_length_8abf5 4 = .ok (.ireturn, 1) := by decide +kernel
theorem dJ5_charAt_5068e_0 : decode cJ5_charAt_5068e 0 = .ok (.aload_n 0, 1) := by decide +kernel
theorem dJ5_charAt_5068e_1 : decode cJ5_charAt_5068e 1 = .ok (.getfield 22, 3) := by decide +kernel
theorem dJ5_charAt_5068e_4 : decode cJ5_charAt_5068e 4 = .ok (.istore_n 2, 1) := by decide +kernel
theorem dJ5_charAt_5068e_5 : decode cJ5_charAt_5068e 5 = .ok (.aload_n 0, 1) := by decide +kernel
theorem dJ5_charAt_5068e_6 : decode cJ5_charAt_5068e 6 = .ok (.getfield 15, 3) := by decide +kernel
theorem dJ5_charAt_5068e_9 : decode cJ5_charAt_5068e 9 = .ok (.astore_n 3, 1) := by decide +kernel
theorem dJ5_charAt_5068e_10 : decode cJ5_charAt_5068e 10 = .ok (.aload_n 0, 1) := by decide +kernel
theorem dJ5_charAt_5068e_11 : decode cJ5_charAt_5068e 11 = .ok (.getfield 79, 3) := by decide +kernel
theorem dJ5_charAt_5068e_14 : decode cJ5_charAt_5068e 14 = .ok (.aload_n 3, 1) := by decide +kernel
theorem dJ5_charAt_5068e_15 : decode cJ5_charAt_5068e 15 = .ok (.arraylength, 1) := by decide +kernel
theorem dJ5_charAt_5068e_16 : decode cJ5_charAt_5068e 16 = .ok (.iload_n 2, 1) := by decide +kernel
theorem dJ5_charAt_5068e_17 : decode cJ5_charAt_5068e 17 = .ok (.ishr, 1) := by decide +kernel
theorem dJ5_charAt_5068e_18 : decode cJ5_charAt_5068e 18 = .ok (.invokestatic 138, 3) := by decide +kernel
theorem dJ5_charAt_5068e_21 : decode cJ5_charAt_5068e 21 = .ok (.istore 4, 2) := by decide +kernel
theorem dJ5_charAt_5068e_23 : decode cJ5_charAt_5068e 23 = .ok (.iload_n 1, 1) := by decide +kernel
theorem dJ5_charAt_5068e_24 : decode cJ5_charAt_5068e 24 = .ok (.iload 4, 2) := by decide +kernel
theorem dJ5_charAt_5068e_26 : decode cJ5_charAt_5068e 26 = .ok (.invokestatic 144, 3) := by decide +kernel
theorem dJ5_charAt_5068e_29 : decode cJ5_charAt_5068e 29 = .ok (.iload_n 2, 1) := by decide +kernel
theorem dJ5_charAt_5068e_30 : decode cJ5_charAt_5068e 30 = .ok (.ifCond .ne 12, 3) := by decide +kernel
theorem dJ5_charAt_5068e_33 : decode cJ5_charAt_5068e 33 = .ok (.aload_n 3, 1) := by decide +kernel
theorem dJ5_charAt_5068e_34 : decode cJ5_charAt_5068e 34 = .ok (.iload_n 1, 1) := by decide +kernel
theorem dJ5_charAt_5068e_35 : decode cJ5_charAt_5068e 35 = .ok (.baload, 1) := by decide +kernel
theorem dJ5_charAt_5068e_36 : decode cJ5_charAt_5068e 36 = .ok (.sipush 255, 3) := by decide +kernel
theorem dJ5_charAt_5068e_39 : decode cJ5_charAt_5068e 39 = .ok (.iand, 1) := by decide +kernel
theorem dJ5_charAt_5068e_40 : decode cJ5_charAt_5068e 40 = .ok (.i2c, 1) := by decide +kernel
theorem dJ5_charAt_5068e_41 : decode cJ5_charAt_5068e 41 = .ok (.ireturn, 1) := by decide +kernel
theorem dJ4_charAt_5068e_0 : decode cJ4_charAt_5068e 0 = .ok (.aload_n 0, 1) := by decide +kernel
theorem dJ4_charAt_5068e_1 : decode cJ4_charAt_5068e 1 = .ok (.iload_n 1, 1) := by decide +kernel
theorem dJ4_charAt_5068e_2 : decode cJ4_charAt_5068e 2 = .ok (.invokespecial 329, 3) := by decide +kernel
theorem dJ4_charAt_5068e_5 : decode cJ4_charAt_5068e 5 = .ok (.ireturn, 1) := by decide +kernel
theorem dJ4_length_8abf5_0 : decode cJ4_length_8abf5 0 = .ok (.aload_n 0, 1) := by decide +kernel
theorem dJ4_length_8abf5_1 : decode cJ4_length_8abf5 1 = .ok (.invokespecial 343, 3) := by decide +kernel
theorem dJ4_length_8abf5_4 : decode cJ4_length_8abf5 4 = .ok (.ireturn, 1) := by decide +kernel
def EJ5_length_8abf5 : List (Nat × Nat) := []
def EJ4_length_8abf5 : List (Nat × Nat) := []
def EJ5_charAt_5068e : List (Nat × Nat) := []
def EJ4_charAt_5068e : List (Nat × Nat) := []
set_option maxHeartbeats 4000000 in
set_option maxRecDepth 20000 in
theorem uJ5_length_8abf5 (l : Launch) (dC : Nat → ClassId) (dI : Nat → Nat → Nat) (ca : Nat → ClassId) (base : Nat) (B : jF) (hB : jBok B) (hAp : jAp (dC, dI)) (hB0 : ∀ n G a H, B 0 n G a H ↔ jOb (dC, dI) 0 4 (Fz0 n G) a H) (G0 : jT) (H0 : Heap) (r0 : Nat) (pc : Int32) : Met l yJ5_length_8abf5 (jw yJ5_length_8abf5 cJ5_length_8abf5 1 (some .int)) ({ frames := 0, cells := 0, slots := 0, locals := 0 }) (va_Pc [.ref r0] (fun U => U.heap = H0 ∧ jX B base G0 [] H0 ∧ jG dC dI ca base U ∧ G0 r0 = some (0, 0) ∧ jP (dC, dI) G0 H0 [(r0, 0, 3, .int pc)] ∧ True)) (va_Qi (S := Unit) (fun r u => (r.toInt = pc.toInt)) (fun u t => jRt (dC, dI) B base G0 EJ5_length_8abf5 H0 [] t.heap) (jA base)) 0 0 (jA base) := by
  refine Met.ofW (cc := cJ5_length_8abf5) (maxL := 1) (ret := (some .int)) (by decide) rfl ?_
  intro p e s m args below meth c s₁ Bd hml hv
  obtain ⟨rfl, hH0, hX, hG, hg_r0, hP0, hp0⟩ := hv
  have hK := hG.1
  have hx := Bd.exec
  have hb := Bd.bytes
  have hr := Bd.returns
  have hts := atoms_spec (ws := (jw yJ5_length_8abf5 cJ5_length_8abf5 1 (some .int))) Bd.pre
  have htw : ∀ w ∈ jWl, w.before _ s = true := fun w h => hts w (List.mem_cons_of_mem _ h)
  have hown : s.vm.findClass RJ5 = some m.cls := findClass_of_methodNamed Bd.named
  have hlocks := Bd.notSynchronized
  obtain ⟨Q, hQ⟩ : ∃ Q, Q = MQ below (va_Qi (S := Unit) (fun r u => (r.toInt = pc.toInt)) (fun u t => jRt (dC, dI) B base G0 EJ5_length_8abf5 H0 [] t.heap) (jA base)) ([.ref r0] : List Value).toArray s 0 0 (jA base) := ⟨_, rfl⟩
  rw [← hQ]
  have hl := lv_entry ([.ref r0]) (n := 1) (Nat.le_of_ble_eq_true rfl)
  rw [lg_entry_eq]
  generalize (lg_sl ([.ref r0]) ++ List.replicate (1 - (lg_sl ([.ref r0])).length) Slot.unset).toArray = ls at hl ⊢
  have hl : lv_has ls 1 [(0, .ref r0)] := hl
  generalize hR : (headSpec (jw yJ5_length_8abf5 cJ5_length_8abf5 1 (some .int)) ({ frames := 0, cells := 0, slots := 0, locals := 0 })).room = R
  subst hH0
  have hh : jSt (dC, dI) B base G0 G0 EJ5_length_8abf5 s.heap 0 0 [(r0, 0, 3, .int pc)] [] [] s.heap [] := jSt.start hX hP0 jMc.nil jIs.nil
  clear hX hP0
  have hk0 : (0 : Int32).toInt = 0 := by decide
  have hk1 : (1 : Int32).toInt = 1 := by decide
  have hly_0_3 := htw (u_lay RJ4 TJ4 3) (jWc_wsJ40 _ (u_in_lay (by decide)))
  have hlk_79 := (htw (.fieldLink RJ5 79 "java/lang/AbstractStringBuilder" "count" "I") (jWr_45 _ (List.mem_of_getElem? (i := 9) rfl)))
  refine lv_aload_n hx hb dJ5_length_8abf5_0 rfl (lv_at hl 0 rfl) ?_
  refine j7_read hx hb hown hK (C := RJ4) (T := TJ4) (N := 4) rfl hly_0_3 hlk_79 (hh.at 0 rfl) dJ5_length_8abf5_1 ?_
  rw [hQ]
  exact W.iret (v := pc) hx hb hr (fun t ht hW => ⟨⟨pc, (), rfl, by first | omega | rfl | assumption | decide | exact Or.inl rfl | exact Or.inr rfl | (simp only; omega), hh.rt (M1 := []) [] rfl ht⟩, by rw [ht]; try exact hh.1.1, fun q h9 hq => by rw [ht]; try exact hh.1.2.1 q h9 hq⟩) hh.1.2.2 dJ5_length_8abf5_4
set_option maxHeartbeats 4000000 in
set_option maxRecDepth 20000 in
theorem uJ4_length_8abf5 (l : Launch) (dC : Nat → ClassId) (dI : Nat → Nat → Nat) (ca : Nat → ClassId) (base : Nat) (B : jF) (hB : jBok B) (hAp : jAp (dC, dI)) (hB0 : ∀ n G a H, B 0 n G a H ↔ jOb (dC, dI) 0 4 (Fz0 n G) a H) (G0 : jT) (H0 : Heap) (r0 : Nat) (pc : Int32) : Met l yJ4_length_8abf5 (jw yJ4_length_8abf5 cJ4_length_8abf5 1 (some .int)) ({ frames := 1, cells := 0, slots := 0, locals := 20 }) (va_Pc [.ref r0] (fun U => U.heap = H0 ∧ jX B base G0 [] H0 ∧ jG dC dI ca base U ∧ G0 r0 = some (0, 0) ∧ jP (dC, dI) G0 H0 [(r0, 0, 3, .int pc)] ∧ True)) (va_Qi (S := Unit) (fun r u => (r.toInt = pc.toInt)) (fun u t => jRt (dC, dI) B base G0 EJ4_length_8abf5 H0 [] t.heap) (jA base)) 0 0 (jA base) := by
  refine Met.ofW (cc := cJ4_length_8abf5) (maxL := 1) (ret := (some .int)) (by decide) rfl ?_
  intro p e s m args below meth c s₁ Bd hml hv
  obtain ⟨rfl, hH0, hX, hG, hg_r0, hP0, hp0⟩ := hv
  have hK := hG.1
  have hx := Bd.exec
  have hb := Bd.bytes
  have hr := Bd.returns
  have hts := atoms_spec (ws := (jw yJ4_length_8abf5 cJ4_length_8abf5 1 (some .int))) Bd.pre
  have htw : ∀ w ∈ jWl, w.before _ s = true := fun w h => hts w (List.mem_cons_of_mem _ h)
  have hown : s.vm.findClass RJ4 = some m.cls := findClass_of_methodNamed Bd.named
  have hlocks := Bd.notSynchronized
  obtain ⟨Q, hQ⟩ : ∃ Q, Q = MQ below (va_Qi (S := Unit) (fun r u => (r.toInt = pc.toInt)) (fun u t => jRt (dC, dI) B base G0 EJ4_length_8abf5 H0 [] t.heap) (jA base)) ([.ref r0] : List Value).toArray s 0 0 (jA base) := ⟨_, rfl⟩
  rw [← hQ]
  have hl := lv_entry ([.ref r0]) (n := 1) (Nat.le_of_ble_eq_true rfl)
  rw [lg_entry_eq]
  generalize (lg_sl ([.ref r0]) ++ List.replicate (1 - (lg_sl ([.ref r0])).length) Slot.unset).toArray = ls at hl ⊢
  have hl : lv_has ls 1 [(0, .ref r0)] := hl
  generalize hR : (headSpec (jw yJ4_length_8abf5 cJ4_length_8abf5 1 (some .int)) ({ frames := 1, cells := 0, slots := 0, locals := 20 })).room = R
  subst hH0
  have hh : jSt (dC, dI) B base G0 G0 EJ4_length_8abf5 s.heap 0 0 [(r0, 0, 3, .int pc)] [] [] s.heap [] := jSt.start hX hP0 jMc.nil jIs.nil
  clear hX hP0
  have hk0 : (0 : Int32).toInt = 0 := by decide
  have hk1 : (1 : Int32).toInt = 1 := by decide
  refine lv_aload_n hx hb dJ4_length_8abf5_0 rfl (lv_at hl 0 rfl) ?_
  refine va_calli (A0 := jA base) (H0 := s.heap) (va_runSU (hK.1 0 _ rfl).2 (As := []) (rest := []) ⟨hx, hb, hml, hown, hts⟩ (uJ5_length_8abf5 l dC dI ca base B hB hAp hB0 G0 s.heap r0 pc) (va_cwSU 0 hts (jgU (jWr_48 _ (List.mem_of_getElem? (i := 21) rfl)) (jWr_48 _ (List.mem_of_getElem? (i := 22) rfl)) (jWr_45 _ (List.mem_of_getElem? (i := 6) rfl)) (jWr_48 _ (List.mem_of_getElem? (i := 23) rfl)) (jWr_13 _ (List.mem_of_getElem? (i := 7) rfl)) (jWr_49 _ (List.mem_of_getElem? (i := 0) rfl))) rfl rfl rfl (by decide +kernel) ⟨by rw [← hR]; exact Nat.le_of_ble_eq_true rfl, by rw [← hR]; exact Nat.le_of_ble_eq_true rfl⟩) ⟨fun a U g mk q => by obtain ⟨q0, q1, q2, qK, q10, q11, q12⟩ := q; exact ⟨q0, q1, q2, jG.calling g mk a qK, q10, q11, q12⟩, hh.recv (C := RJ4) (T := TJ4) (N := 4) hB0 rfl (by decide) hg_r0 hK, fun U hU hW => ⟨rfl, hU, hh.2.1, hG.step hW hU hh.1, hg_r0, (hh.2.2.1.sub (L1 := [(r0, 0, 3, .int pc)]) [0] rfl), trivial⟩⟩ rfl rfl hl.1 rfl (lv_room (Nat.le_of_ble_eq_true rfl)) dJ4_length_8abf5_1 ⟨Nat.zero_le _, Nat.zero_le _⟩) hh.1 (fun q _ h => h) (fun q h => h) (fun r_2 u_1 t_1 H_1 locs_1 ht_1 hvm_1 hr_2 hb_1 hz_1 hk_1 hS_1 => ?_)
  rw [ht_1] at hb_1
  obtain ⟨hb_11, hb_12, hb_13, hb_14, hb_15⟩ := hb_1
  have hh_1 : jSt (dC, dI) B base G0 G0 EJ4_length_8abf5 s.heap 0 0 [(r0, 0, 3, .int pc)] [] [] H_1 locs_1 := ((hh.call hb_11 hb_12 hb_13 hb_14 hS_1 rfl (L1 := [(r0, 0, 3, .int pc)]) [0] rfl rfl (M1 := []) [] rfl rfl (I1 := []) [] rfl rfl).more hb_15)
  clear hh ht_1 hvm_1 hz_1 hk_1 hS_1 hb_11 hb_12 hb_13 hb_14 hb_15
  rw [hQ]
  exact W.iret (v := r_2) hx hb hr (fun t ht hW => ⟨⟨r_2, (), rfl, by first | omega | rfl | assumption | decide | exact Or.inl rfl | exact Or.inr rfl | (simp only; omega), hh_1.rt (M1 := []) [] rfl ht⟩, by rw [ht]; try exact hh_1.1.1, fun q h9 hq => by rw [ht]; try exact hh_1.1.2.1 q h9 hq⟩) hh_1.1.2.2 dJ4_length_8abf5_4
set_option maxHeartbeats 4000000 in
set_option maxRecDepth 20000 in
theorem uJ5_charAt_5068e (l : Launch) (dC : Nat → ClassId) (dI : Nat → Nat → Nat) (ca : Nat → ClassId) (base : Nat) (B : jF) (hB : jBok B) (hAp : jAp (dC, dI)) (hB0 : ∀ n G a H, B 0 n G a H ↔ jOb (dC, dI) 0 4 (Fz0 n G) a H) (hB198 : ∀ n G a H, B 198 n G a H ↔ jAr (dC, dI) (ca 0) (fun j z => jBf j z) n a H) (G0 : jT) (H0 : Heap) (r0 : Nat) (a1 : Int32) (pc : Int32) (pa : Nat) (n_pa : Nat) (fv : Nat → Int32) : Met l yJ5_charAt_5068e (jw yJ5_charAt_5068e cJ5_charAt_5068e 5 (some .char)) ({ frames := 2, cells := 0, slots := 0, locals := 61 }) (va_Pc [.ref r0, .int a1] (fun U => U.heap = H0 ∧ jX B base G0 [] H0 ∧ jG dC dI ca base U ∧ G0 r0 = some (0, 0) ∧ G0 pa = some (198, n_pa) ∧ jP (dC, dI) G0 H0 [(r0, 0, 3, .int pc), (r0, 0, 0, .ref pa)] ∧ jMc (dC, dI) G0 H0 [(pa, 198, n_pa, ca 0, fv)] ∧ 0 ≤ a1.toInt ∧ a1.toInt < pc.toInt ∧ pc.toInt ≤ n_pa ∧ n_pa ≤ 1000)) (va_Qi (S := Unit) (fun r u => (0 ≤ r.toInt ∧ r.toInt ≤ 255 ∧ r.toInt = (jCv (fv (a1.toInt).toNat)).toInt)) (fun u t => jRt (dC, dI) B base G0 EJ5_charAt_5068e H0 [] t.heap) (jA base)) 0 0 (jA base) := by
  refine Met.ofW (cc := cJ5_charAt_5068e) (maxL := 5) (ret := (some .char)) (by decide) rfl ?_
  intro p e s m args below meth c s₁ Bd hml hv
  obtain ⟨rfl, hH0, hX, hG, hg_r0, hg_pa, hP0, hM0, hp0, hp1, hp2, hp3⟩ := hv
  have hK := hG.1
  have hx := Bd.exec
  have hb := Bd.bytes
  have hr := Bd.returns
  have hts := atoms_spec (ws := (jw yJ5_charAt_5068e cJ5_charAt_5068e 5 (some .char))) Bd.pre
  have htw : ∀ w ∈ jWl, w.before _ s = true := fun w h => hts w (List.mem_cons_of_mem _ h)
  have hown : s.vm.findClass RJ5 = some m.cls := findClass_of_methodNamed Bd.named
  have hlocks := Bd.notSynchronized
  obtain ⟨Q, hQ⟩ : ∃ Q, Q = MQ below (va_Qi (S := Unit) (fun r u => (0 ≤ r.toInt ∧ r.toInt ≤ 255 ∧ r.toInt = (jCv (fv (a1.toInt).toNat)).toInt)) (fun u t => jRt (dC, dI) B base G0 EJ5_charAt_5068e H0 [] t.heap) (jA base)) ([.ref r0, .int a1] : List Value).toArray s 0 0 (jA base) := ⟨_, rfl⟩
  rw [← hQ]
  have hl := lv_entry ([.ref r0, .int a1]) (n := 5) (Nat.le_of_ble_eq_true rfl)
  rw [lg_entry_eq]
  generalize (lg_sl ([.ref r0, .int a1]) ++ List.replicate (5 - (lg_sl ([.ref r0, .int a1])).length) Slot.unset).toArray = ls at hl ⊢
  have hl : lv_has ls 5 [(0, .ref r0), (1, .int a1)] := hl
  generalize hR : (headSpec (jw yJ5_charAt_5068e cJ5_charAt_5068e 5 (some .char)) ({ frames := 2, cells := 0, slots := 0, locals := 61 })).room = R
  subst hH0
  have hh : jSt (dC, dI) B base G0 G0 EJ5_charAt_5068e s.heap 0 0 [(r0, 0, 3, .int pc), (r0, 0, 0, .ref pa)] [(pa, 198, n_pa, ca 0, fv)] [] s.heap [] := jSt.start hX hP0 hM0 jIs.nil
  clear hX hP0
  have hk0 : (0 : Int32).toInt = 0 := by decide
  have hk1 : (1 : Int32).toInt = 1 := by decide
  have hk255 : (255 : Int32).toInt = 255 := by decide
  have hly_0_0 := htw (u_lay RJ4 TJ4 0) (jWc_wsJ40 _ (u_in_lay (by decide)))
  have hly_0_1 := htw (u_lay RJ4 TJ4 1) (jWc_wsJ40 _ (u_in_lay (by decide)))
  have hly_0_3 := htw (u_lay RJ4 TJ4 3) (jWc_wsJ40 _ (u_in_lay (by decide)))
  have hlk_22 := (htw (.fieldLink RJ5 22 "java/lang/AbstractStringBuilder" "coder" "B") (jWr_13 _ (List.mem_of_getElem? (i := 12) rfl)))
  have hlk_15 := (htw (.fieldLink RJ5 15 "java/lang/AbstractStringBuilder" "value" "[B") (jWr_13 _ (List.mem_of_getElem? (i := 11) rfl)))
  have hlk_79 := (htw (.fieldLink RJ5 79 "java/lang/AbstractStringBuilder" "count" "I") (jWr_45 _ (List.mem_of_getElem? (i := 9) rfl)))
  have hrg_a1 := jb_rng a1
  refine lv_aload_n hx hb dJ5_charAt_5068e_0 rfl (lv_at hl 0 rfl) ?_
  obtain ⟨v_1, hv_1, hh_2⟩ := hh.pin (C := RJ4) (T := TJ4) (N := 4) hB0 rfl (by decide) hg_r0 (i := 1) (by decide) rfl
  clear hh
  obtain ⟨coder_3, rfl, hlocoder_3, hhicoder_3⟩ := hv_1
  obtain rfl : coder_3 = 0 := Int32.toInt_inj.mp (by rw [show (0 : Int32).toInt = 0 by decide]; omega)
  refine j7_read hx hb hown hK (C := RJ4) (T := TJ4) (N := 4) rfl hly_0_1 hlk_22 (hh_2.at 0 rfl) dJ5_charAt_5068e_1 ?_
  refine lv_istore_n (lv' := [(2, .int 0), (0, .ref r0), (1, .int a1)]) hx hb dJ5_charAt_5068e_4 rfl hl (by decide) rfl (fun ls hl => ?_)
  refine lv_aload_n hx hb dJ5_charAt_5068e_5 rfl (lv_at hl 1 rfl) ?_
  refine j7_read hx hb hown hK (C := RJ4) (T := TJ4) (N := 4) rfl hly_0_0 hlk_15 (hh_2.at 2 rfl) dJ5_charAt_5068e_6 ?_
  refine lv_astore_n (lv' := [(3, .ref pa), (2, .int 0), (0, .ref r0), (1, .int a1)]) hx hb dJ5_charAt_5068e_9 rfl hl (by decide) rfl (fun ls hl => ?_)
  refine lv_aload_n hx hb dJ5_charAt_5068e_10 rfl (lv_at hl 2 rfl) ?_
  refine j7_read hx hb hown hK (C := RJ4) (T := TJ4) (N := 4) rfl hly_0_3 hlk_79 (hh_2.at 1 rfl) dJ5_charAt_5068e_11 ?_
  refine lv_aload_n hx hb dJ5_charAt_5068e_14 rfl (lv_at hl 0 rfl) ?_
  refine j7_len hx hb hK hh_2 hB198 0 rfl (by decide) hg_pa (by omega) dJ5_charAt_5068e_15 (fun z_4 hz_4 => ?_)
  refine lv_iload_n hx hb dJ5_charAt_5068e_16 rfl (lv_at hl 1 rfl) ?_
  refine lv_ishr hx hb dJ5_charAt_5068e_17 ?_
  refine lv_topi (fun z_5 ez_5 => ?_)
  have hz_5 : z_5.toInt = z_4.toInt / 2 ^ 0 := by rw [ez_5]; exact jb_ishr 0 (rfl) (by decide)
  refine va_mmin hx hb (by rw [hml]; exact hl.1.symm) hown (htw (.methodLink RJ5 138 Lib.Math.min.name) (jWr_49 _ (List.mem_of_getElem? (i := 10) rfl))) (htw (.static Lib.Math.min.name) (jWr_16 _ (List.mem_of_getElem? (i := 16) rfl))) (htw (.initialized "java/lang/Math") (jWr_3 _ (List.mem_of_getElem? (i := 7) rfl))) (htw (.code Lib.Math.min.name Lib.Math.min.code 2 (some .int)) (jWr_16 _ (List.mem_of_getElem? (i := 17) rfl))) (by rw [← hR]; exact Nat.le_of_ble_eq_true rfl) (by rw [← hR]; exact Nat.le_of_ble_eq_true rfl) (Nat.zero_le _) (Nat.zero_le _) dJ5_charAt_5068e_18 ?_
  refine lv_topi (fun z_6 ez_6 => ?_)
  have hz_6 := jb_min ez_6
  refine lv_istore (lv' := [(4, .int z_6), (3, .ref pa), (2, .int 0), (0, .ref r0), (1, .int a1)]) hx hb dJ5_charAt_5068e_21 hl (by decide) rfl (fun ls hl => ?_)
  refine lv_iload_n hx hb dJ5_charAt_5068e_23 rfl (lv_at hl 4 rfl) ?_
  refine lv_iload hx hb dJ5_charAt_5068e_24 (lv_at hl 0 rfl) ?_
  refine va_csv (W.runS (As := [.int a1, .int z_6]) (rest := []) ⟨hx, hb, hml, hown, hts⟩ (wJ0_checkIndex_df160 l dC dI ca base s.heap a1 z_6) (va_cwS 2 hts (jgS (jWr_49 _ (List.mem_of_getElem? (i := 11) rfl)) (jWr_6 _ (List.mem_of_getElem? (i := 13) rfl)) (jWr_5 _ (List.mem_of_getElem? (i := 15) rfl)) (jWr_6 _ (List.mem_of_getElem? (i := 14) rfl))) rfl rfl rfl (by decide +kernel) ⟨by rw [← hR]; exact Nat.le_of_ble_eq_true rfl, by rw [← hR]; exact Nat.le_of_ble_eq_true rfl⟩) ⟨fun a U g mk q => by obtain ⟨q0, q1, qK, q9⟩ := q; exact ⟨q0, q1, jG.calling g mk a qK, q9⟩, fun U hU hW => ⟨rfl, hU, hG.step hW hU hh_2.1, by first | trivial | omega | (constructor <;> omega)⟩⟩ rfl rfl hl.1 rfl (lv_room (Nat.le_of_ble_eq_true rfl)) dJ5_charAt_5068e_26 ⟨Nat.zero_le _, Nat.zero_le _⟩) (fun _ => ?_)
  refine lv_iload_n hx hb dJ5_charAt_5068e_29 rfl (lv_at hl 2 rfl) ?_
  refine lv_if_ne (tgt := 42) hx hb dJ5_charAt_5068e_30 (by decide) (fun c_8 => ?_) (fun c_8 => ?_)
  · skip
    exact absurd c_8 (by decide)
  · skip
    refine lv_aload_n hx hb dJ5_charAt_5068e_33 rfl (lv_at hl 1 rfl) ?_
    refine lv_iload_n hx hb dJ5_charAt_5068e_34 rfl (lv_at hl 4 rfl) ?_
    refine j7_baldM hx hb hK hh_2 hB198 0 rfl (by decide) hg_pa (x := a1.toInt) (rfl) (by omega) (j := 0) rfl dJ5_charAt_5068e_35 (fun z_9 ez_9 (hz_9 : jBf (a1.toInt).toNat z_9) => ?_)
    have hqz_9 : z_9.toInt = jSo fv (a1.toInt) := by unfold jSo; rw [ez_9]
    refine lv_sipush (v := 255) hx hb dJ5_charAt_5068e_36 (by decide) ?_
    refine lv_iand hx hb dJ5_charAt_5068e_39 ?_
    refine lv_topi (fun z_10 ez_10 => ?_)
    have hz_10 : 0 ≤ z_10.toInt ∧ z_10.toInt ≤ 255 := by rw [ez_10]; exact jb_and z_9 (m := 255) (k := 8) (by decide) (by decide)
    refine lv_i2c hx hb dJ5_charAt_5068e_40 rfl ?_
    refine lv_topi (fun z_11 ez_11 => ?_)
    rw [hQ]
    exact W.zret (v := z_11) hx hb hr (by rw [ez_11]; exact pk_nc _) (fun t ht hW => ⟨⟨z_11, (), rfl, by have h9 : z_11 = jCv (fv a1.toInt.toNat) := (by have h8 := hqz_9; unfold jSo at h8; rw [ez_11, ez_10, Int32.toInt_inj.mp h8]; rfl); rw [h9]; exact ⟨(jb_char _).1, (jb_char _).2, rfl⟩, hh_2.rt (M1 := []) [] rfl ht⟩, by rw [ht]; try exact hh_2.1.1, fun q h9 hq => by rw [ht]; try exact hh_2.1.2.1 q h9 hq⟩) hh_2.1.2.2 dJ5_charAt_5068e_41
set_option maxHeartbeats 4000000 in
set_option maxRecDepth 20000 in
theorem uJ4_charAt_5068e (l : Launch) (dC : Nat → ClassId) (dI : Nat → Nat → Nat) (ca : Nat → ClassId) (base : Nat) (B : jF) (hB : jBok B) (hAp : jAp (dC, dI)) (hB0 : ∀ n G a H, B 0 n G a H ↔ jOb (dC, dI) 0 4 (Fz0 n G) a H) (hB198 : ∀ n G a H, B 198 n G a H ↔ jAr (dC, dI) (ca 0) (fun j z => jBf j z) n a H) (G0 : jT) (H0 : Heap) (r0 : Nat) (a1 : Int32) (pc : Int32) (pa : Nat) (n_pa : Nat) (fv : Nat → Int32) : Met l yJ4_charAt_5068e (jw yJ4_charAt_5068e cJ4_charAt_5068e 2 (some .char)) ({ frames := 3, cells := 0, slots := 0, locals := 85 }) (va_Pc [.ref r0, .int a1] (fun U => U.heap = H0 ∧ jX B base G0 [] H0 ∧ jG dC dI ca base U ∧ G0 r0 = some (0, 0) ∧ G0 pa = some (198, n_pa) ∧ jP (dC, dI) G0 H0 [(r0, 0, 3, .int pc), (r0, 0, 0, .ref pa)] ∧ jMc (dC, dI) G0 H0 [(pa, 198, n_pa, ca 0, fv)] ∧ 0 ≤ a1.toInt ∧ a1.toInt < pc.toInt ∧ pc.toInt ≤ n_pa ∧ n_pa ≤ 1000)) (va_Qi (S := Unit) (fun r u => (0 ≤ r.toInt ∧ r.toInt ≤ 255 ∧ r.toInt = (jCv (fv (a1.toInt).toNat)).toInt)) (fun u t => jRt (dC, dI) B base G0 EJ4_charAt_5068e H0 [] t.heap) (jA base)) 0 0 (jA base) := by
  refine Met.ofW (cc := cJ4_charAt_5068e) (maxL := 2) (ret := (some .char)) (by decide) rfl ?_
  intro p e s m args below meth c s₁ Bd hml hv
  obtain ⟨rfl, hH0, hX, hG, hg_r0, hg_pa, hP0, hM0, hp0, hp1, hp2, hp3⟩ := hv
  have hK := hG.1
  have hx := Bd.exec
  have hb := Bd.bytes
  have hr := Bd.returns
  have hts := atoms_spec (ws := (jw yJ4_charAt_5068e cJ4_charAt_5068e 2 (some .char))) Bd.pre
  have htw : ∀ w ∈ jWl, w.before _ s = true := fun w h => hts w (List.mem_cons_of_mem _ h)
  have hown : s.vm.findClass RJ4 = some m.cls := findClass_of_methodNamed Bd.named
  have hlocks := Bd.notSynchronized
  obtain ⟨Q, hQ⟩ : ∃ Q, Q = MQ below (va_Qi (S := Unit) (fun r u => (0 ≤ r.toInt ∧ r.toInt ≤ 255 ∧ r.toInt = (jCv (fv (a1.toInt).toNat)).toInt)) (fun u t => jRt (dC, dI) B base G0 EJ4_charAt_5068e H0 [] t.heap) (jA base)) ([.ref r0, .int a1] : List Value).toArray s 0 0 (jA base) := ⟨_, rfl⟩
  rw [← hQ]
  have hl := lv_entry ([.ref r0, .int a1]) (n := 2) (Nat.le_of_ble_eq_true rfl)
  rw [lg_entry_eq]
  generalize (lg_sl ([.ref r0, .int a1]) ++ List.replicate (2 - (lg_sl ([.ref r0, .int a1])).length) Slot.unset).toArray = ls at hl ⊢
  have hl : lv_has ls 2 [(0, .ref r0), (1, .int a1)] := hl
  generalize hR : (headSpec (jw yJ4_charAt_5068e cJ4_charAt_5068e 2 (some .char)) ({ frames := 3, cells := 0, slots := 0, locals := 85 })).room = R
  subst hH0
  have hh : jSt (dC, dI) B base G0 G0 EJ4_charAt_5068e s.heap 0 0 [(r0, 0, 3, .int pc), (r0, 0, 0, .ref pa)] [(pa, 198, n_pa, ca 0, fv)] [] s.heap [] := jSt.start hX hP0 hM0 jIs.nil
  clear hX hP0
  have hk0 : (0 : Int32).toInt = 0 := by decide
  have hk1 : (1 : Int32).toInt = 1 := by decide
  have hrg_a1 := jb_rng a1
  refine lv_aload_n hx hb dJ4_charAt_5068e_0 rfl (lv_at hl 0 rfl) ?_
  refine lv_iload_n hx hb dJ4_charAt_5068e_1 rfl (lv_at hl 1 rfl) ?_
  refine va_calli (A0 := jA base) (H0 := s.heap) (va_runSU (hK.1 0 _ rfl).2 (As := [.int a1]) (rest := []) ⟨hx, hb, hml, hown, hts⟩ (uJ5_charAt_5068e l dC dI ca base B hB hAp hB0 hB198 G0 s.heap r0 a1 pc pa n_pa fv) (va_cwSU 1 hts (jgU (jWr_49 _ (List.mem_of_getElem? (i := 6) rfl)) (jWr_49 _ (List.mem_of_getElem? (i := 7) rfl)) (jWr_45 _ (List.mem_of_getElem? (i := 6) rfl)) (jWr_49 _ (List.mem_of_getElem? (i := 8) rfl)) (jWr_13 _ (List.mem_of_getElem? (i := 7) rfl)) (jWr_49 _ (List.mem_of_getElem? (i := 9) rfl))) rfl rfl rfl (by decide +kernel) ⟨by rw [← hR]; exact Nat.le_of_ble_eq_true rfl, by rw [← hR]; exact Nat.le_of_ble_eq_true rfl⟩) ⟨fun a U g mk q => by obtain ⟨q0, q1, q2, qK, q10, q11, q12, q13, q14⟩ := q; exact ⟨q0, q1, q2, jG.calling g mk a qK, q10, q11, q12, q13, q14⟩, hh.recv (C := RJ4) (T := TJ4) (N := 4) hB0 rfl (by decide) hg_r0 hK, fun U hU hW => ⟨rfl, hU, hh.2.1, hG.step hW hU hh.1, hg_r0, hg_pa, (hh.2.2.1.sub (L1 := [(r0, 0, 3, .int pc), (r0, 0, 0, .ref pa)]) [0, 1] rfl), (hh.2.2.2.2.2.2.2.1.sub (L1 := [(pa, 198, n_pa, ca 0, fv)]) [0] rfl), by first | omega | (refine ⟨?_, ?_, ?_, ?_⟩ <;> (first | omega | rfl | assumption | decide | exact Or.inl rfl | exact Or.inr rfl | (simp only; omega)))⟩⟩ rfl rfl hl.1 rfl (lv_room (Nat.le_of_ble_eq_true rfl)) dJ4_charAt_5068e_2 ⟨Nat.zero_le _, Nat.zero_le _⟩) hh.1 (fun q _ h => h) (fun q h => h) (fun r_2 u_1 t_1 H_1 locs_1 ht_1 hvm_1 hr_2 hb_1 hz_1 hk_1 hS_1 => ?_)
  rw [ht_1] at hb_1
  obtain ⟨hb_11, hb_12, hb_13, hb_14, hb_15⟩ := hb_1
  have hh_1 : jSt (dC, dI) B base G0 G0 EJ4_charAt_5068e s.heap 0 0 [(r0, 0, 3, .int pc), (r0, 0, 0, .ref pa)] [(pa, 198, n_pa, ca 0, fv)] [] H_1 locs_1 := ((hh.call hb_11 hb_12 hb_13 hb_14 hS_1 rfl (L1 := [(r0, 0, 3, .int pc), (r0, 0, 0, .ref pa)]) [0, 1] rfl rfl (M1 := [(pa, 198, n_pa, ca 0, fv)]) [0] rfl rfl (I1 := []) [] rfl rfl).more hb_15)
  clear hh ht_1 hvm_1 hz_1 hk_1 hS_1 hb_11 hb_12 hb_13 hb_14 hb_15
  obtain ⟨hr_2_0, hr_2_1, hr_2_2⟩ := hr_2
  rw [hQ]
  exact W.zret (v := r_2) hx hb hr (jb_nch (by omega) (by omega)) (fun t ht hW => ⟨⟨r_2, (), rfl, by first | omega | (refine ⟨?_, ?_, ?_⟩ <;> (first | omega | rfl | assumption | decide | exact Or.inl rfl | exact Or.inr rfl | (simp only; omega))), hh_1.rt (M1 := []) [] rfl ht⟩, by rw [ht]; try exact hh_1.1.1, fun q h9 hq => by rw [ht]; try exact hh_1.1.2.1 q h9 hq⟩) hh_1.1.2.2 dJ4_charAt_5068e_5
end
section
theorem dX14_isContentLength_0 : decode cX14_isContentLength 0 = .ok (.ldc 220, 2) := by decide +kernel
theorem dX14_isContentLength_2 : decode cX14_isContentLength 2 = .ok (.astore_n 1, 1) := by decide +kernel
theorem dX14_isContentLength_3 : decode cX14_isContentLength 3 = .ok (.aload_n 0, 1) := by decide +kernel
theorem dX14_isContentLength_4 : decode cX14_isContentLength 4 = .ok (.getfield 26, 3) := by decide +kernel
theorem dX14_isContentLength_7 : decode cX14_isContentLength 7 = .ok (.invokevirtual 222, 3) := by decide +kernel
theorem dX14_isContentLength_10 : decode cX14_isContentLength 10 = .ok (.aload_n 1, 1) := by decide +kernel
theorem dX14_isContentLength_11 : decode cX14_isContentLength 11 = .ok (.invokevirtual 163, 3) := by decide +kernel
theorem dX14_isContentLength_14 : decode cX14_isContentLength 14 = .ok (.if_icmp .eq 5, 3) := by decide +kernel
theorem dX14_isContentLength_17 : decode cX14_isContentLength 17 = .ok (.iconst 0, 1) := by decide +kernel
theorem dX14_isContentLength_18 : decode cX14_isContentLength 18 = .ok (.ireturn, 1) := by decide +kernel
theorem dX14_isContentLength_19 : decode cX14_isContentLength 19 = .ok (.iconst 0, 1) := by decide +kernel
theorem dX14_isContentLength_20 : decode cX14_isContentLength 20 = .ok (.istore_n 2, 1) := by decide +kernel
theorem dX14_isContentLength_21 : decode cX14_isContentLength 21 = .ok (.iload_n 2, 1) := by decide +kernel
theorem dX14_isContentLength_22 : decode cX14_isContentLength 22 = .ok (.aload_n 1, 1) := by decide +kernel
theorem dX14_isContentLength_23 : decode cX14_isContentLength 23 = .ok (.invokevirtual 163, 3) := by decide +kernel
theorem dX14_isContentLength_26 : decode cX14_isContentLength 26 = .ok (.if_icmp .ge 47, 3) := by decide +kernel
theorem dX14_isContentLength_29 : decode cX14_isContentLength 29 = .ok (.aload_n 0, 1) := by decide +kernel
theorem dX14_isContentLength_30 : decode cX14_isContentLength 30 = .ok (.getfield 26, 3) := by decide +kernel
theorem dX14_isContentLength_33 : decode cX14_isContentLength 33 = .ok (.iload_n 2, 1) := by decide +kernel
theorem dX14_isContentLength_34 : decode cX14_isContentLength 34 = .ok (.invokevirtual 223, 3) := by decide +kernel
theorem dX14_isContentLength_37 : decode cX14_isContentLength 37 = .ok (.istore_n 3, 1) := by decide +kernel
theorem dX14_isContentLength_38 : decode cX14_isContentLength 38 = .ok (.iload_n 3, 1) := by decide +kernel
theorem dX14_isContentLength_39 : decode cX14_isContentLength 39 = .ok (.bipush 65, 2) := by decide +kernel
theorem dX14_isContentLength_41 : decode cX14_isContentLength 41 = .ok (.bipush 90, 2) := by decide +kernel
theorem dX14_isContentLength_43 : decode cX14_isContentLength 43 = .ok (.invokestatic 181, 3) := by decide +kernel
theorem dX14_isContentLength_46 : decode cX14_isContentLength 46 = .ok (.ifCond .eq 10, 3) := by decide +kernel
theorem dX14_isContentLength_49 : decode cX14_isContentLength 49 = .ok (.iload_n 3, 1) := by decide +kernel
theorem dX14_isContentLength_50 : decode cX14_isContentLength 50 = .ok (.bipush 32, 2) := by decide +kernel
theorem dX14_isContentLength_52 : decode cX14_isContentLength 52 = .ok (.iadd, 1) := by decide +kernel
theorem dX14_isContentLength_53 : decode cX14_isContentLength 53 = .ok (.goto 4, 3) := by decide +kernel
theorem dX14_isContentLength_56 : decode cX14_isContentLength 56 = .ok (.iload_n 3, 1) := by decide +kernel
theorem dX14_isContentLength_57 : decode cX14_isContentLength 57 = .ok (.aload_n 1, 1) := by decide +kernel
theorem dX14_isContentLength_58 : decode cX14_isContentLength 58 = .ok (.iload_n 2, 1) := by decide +kernel
theorem dX14_isContentLength_59 : decode cX14_isContentLength 59 = .ok (.invokevirtual 168, 3) := by decide +kernel
theorem dX14_isContentLength_62 : decode cX14_isContentLength 62 = .ok (.if_icmp .eq 5, 3) := by decide +kernel
theorem dX14_isContentLength_65 : decode cX14_isContentLength 65 = .ok (.iconst 0, 1) := by decide +kernel
theorem dX14_isContentLength_66 : decode cX14_isContentLength 66 = .ok (.ireturn, 1) := by decide +kernel
theorem dX14_isContentLength_67 : decode cX14_isContentLength 67 = .ok (.iinc 2 1, 3) := by decide +kernel
theorem dX14_isContentLength_70 : decode cX14_isContentLength 70 = .ok (.goto (-49), 3) := by decide +kernel
theorem dX14_isContentLength_73 : decode cX14_isContentLength 73 = .ok (.iconst 1, 1) := by decide +kernel
theorem dX14_isContentLength_74 : decode cX14_isContentLength 74 = .ok (.ireturn, 1) := by decide +kernel
theorem dX14_isLengthSoFar_0 : decode cX14_isLengthSoFar 0 = .ok (.aload_n 0, 1) := by decide +kernel
theorem dX14_isLengthSoFar_1 : decode cX14_isLengthSoFar 1 = .ok (.getfield 30, 3) := by decide +kernel
theorem dX14_isLengthSoFar_4 : decode cX14_isLengthSoFar 4 = .ok (.invokevirtual 222, 3) := by decide +kernel
theorem dX14_isLengthSoFar_7 : decode cX14_isLengthSoFar 7 = .ok (.istore_n 2, 1) := by decide +kernel
theorem dX14_isLengthSoFar_8 : decode cX14_isLengthSoFar 8 = .ok (.iload_n 2, 1) := by decide +kernel
theorem dX14_isLengthSoFar_9 : decode cX14_isLengthSoFar 9 = .ok (.iconst 4, 1) := by decide +kernel
theorem dX14_isLengthSoFar_10 : decode cX14_isLengthSoFar 10 = .ok (.if_icmp .gt 11, 3) := by decide +kernel
theorem dX14_isLengthSoFar_13 : decode cX14_isLengthSoFar 13 = .ok (.iload_n 1, 1) := by decide +kernel
theorem dX14_isLengthSoFar_14 : decode cX14_isLengthSoFar 14 = .ok (.ifCond .eq 9, 3) := by decide +kernel
theorem dX14_isLengthSoFar_17 : decode cX14_isLengthSoFar 17 = .ok (.iload_n 2, 1) := by decide +kernel
theorem dX14_isLengthSoFar_18 : decode cX14_isLengthSoFar 18 = .ok (.ifCond .ne 5, 3) := by decide +kernel
theorem dX14_isLengthSoFar_21 : decode cX14_isLengthSoFar 21 = .ok (.iconst 0, 1) := by decide +kernel
theorem dX14_isLengthSoFar_22 : decode cX14_isLengthSoFar 22 = .ok (.ireturn, 1) := by decide +kernel
theorem dX14_isLengthSoFar_23 : decode cX14_isLengthSoFar 23 = .ok (.iconst 0, 1) := by decide +kernel
theorem dX14_isLengthSoFar_24 : decode cX14_isLengthSoFar 24 = .ok (.istore_n 3, 1) := by decide +kernel
theorem dX14_isLengthSoFar_25 : decode cX14_isLengthSoFar 25 = .ok (.iconst 0, 1) := by decide +kernel
theorem dX14_isLengthSoFar_26 : decode cX14_isLengthSoFar 26 = .ok (.istore 4, 2) := by decide +kernel
theorem dX14_isLengthSoFar_28 : decode cX14_isLengthSoFar 28 = .ok (.iload 4, 2) := by decide +kernel
theorem dX14_isLengthSoFar_30 : decode cX14_isLengthSoFar 30 = .ok (.iload_n 2, 1) := by decide +kernel
theorem dX14_isLengthSoFar_31 : decode cX14_isLengthSoFar 31 = .ok (.if_icmp .ge 44, 3) := by decide +kernel
theorem dX14_isLengthSoFar_34 : decode cX14_isLengthSoFar 34 = .ok (.aload_n 0, 1) := by decide +kernel
theorem dX14_isLengthSoFar_35 : decode cX14_isLengthSoFar 35 = .ok (.getfield 30, 3) := by decide +kernel
theorem dX14_isLengthSoFar_38 : decode cX14_isLengthSoFar 38 = .ok (.iload 4, 2) := by decide +kernel
theorem dX14_isLengthSoFar_40 : decode cX14_isLengthSoFar 40 = .ok (.invokevirtual 223, 3) := by decide +kernel
theorem dX14_isLengthSoFar_43 : decode cX14_isLengthSoFar 43 = .ok (.invokestatic 224, 3) := by decide +kernel
theorem dX14_isLengthSoFar_46 : decode cX14_isLengthSoFar 46 = .ok (.ifCond .ne 5, 3) := by decide +kernel
theorem dX14_isLengthSoFar_49 : decode cX14_isLengthSoFar 49 = .ok (.iconst 0, 1) := by decide +kernel
theorem dX14_isLengthSoFar_50 : decode cX14_isLengthSoFar 50 = .ok (.ireturn, 1) := by decide +kernel
theorem dX14_isLengthSoFar_51 : decode cX14_isLengthSoFar 51 = .ok (.bipush 10, 2) := by decide +kernel
theorem dX14_isLengthSoFar_53 : decode cX14_isLengthSoFar 53 = .ok (.iload_n 3, 1) := by decide +kernel
theorem dX14_isLengthSoFar_54 : decode cX14_isLengthSoFar 54 = .ok (.imul, 1) := by decide +kernel
theorem dX14_isLengthSoFar_55 : decode cX14_isLengthSoFar 55 = .ok (.aload_n 0, 1) := by decide +kernel
theorem dX14_isLengthSoFar_56 : decode cX14_isLengthSoFar 56 = .ok (.getfield 30, 3) := by decide +kernel
theorem dX14_isLengthSoFar_59 : decode cX14_isLengthSoFar 59 = .ok (.iload 4, 2) := by decide +kernel
theorem dX14_isLengthSoFar_61 : decode cX14_isLengthSoFar 61 = .ok (.invokevirtual 223, 3) := by decide +kernel
theorem dX14_isLengthSoFar_64 : decode cX14_isLengthSoFar 64 = .ok (.iadd, 1) := by decide +kernel
theorem dX14_isLengthSoFar_65 : decode cX14_isLengthSoFar 65 = .ok (.bipush 48, 2) := by decide +kernel
theorem dX14_isLengthSoFar_67 : decode cX14_isLengthSoFar 67 = .ok (.isub, 1) := by decide +kernel
theorem dX14_isLengthSoFar_68 : decode cX14_isLengthSoFar 68 = .ok (.istore_n 3, 1) := by decide +kernel
theorem dX14_isLengthSoFar_69 : decode cX14_isLengthSoFar 69 = .ok (.iinc 4 1, 3) := by decide +kernel
theorem dX14_isLengthSoFar_72 : decode cX14_isLengthSoFar 72 = .ok (.goto (-44), 3) := by decide +kernel
theorem dX14_isLengthSoFar_75 : decode cX14_isLengthSoFar 75 = .ok (.iload_n 3, 1) := by decide +kernel
theorem dX14_isLengthSoFar_76 : decode cX14_isLengthSoFar 76 = .ok (.sipush 3000, 3) := by decide +kernel
theorem dX14_isLengthSoFar_79 : decode cX14_isLengthSoFar 79 = .ok (.if_icmp .gt 7, 3) := by decide +kernel
theorem dX14_isLengthSoFar_82 : decode cX14_isLengthSoFar 82 = .ok (.iconst 1, 1) := by decide +kernel
theorem dX14_isLengthSoFar_83 : decode cX14_isLengthSoFar 83 = .ok (.goto 4, 3) := by decide +kernel
theorem dX14_isLengthSoFar_86 : decode cX14_isLengthSoFar 86 = .ok (.iconst 0, 1) := by decide +kernel
theorem dX14_isLengthSoFar_87 : decode cX14_isLengthSoFar 87 = .ok (.ireturn, 1) := by decide +kernel
theorem dX14_lengthTold_0 : decode cX14_lengthTold 0 = .ok (.iconst 0, 1) := by decide +kernel
theorem dX14_lengthTold_1 : decode cX14_lengthTold 1 = .ok (.istore_n 1, 1) := by decide +kernel
theorem dX14_lengthTold_2 : decode cX14_lengthTold 2 = .ok (.iconst 0, 1) := by decide +kernel
theorem dX14_lengthTold_3 : decode cX14_lengthTold 3 = .ok (.istore_n 2, 1) := by decide +kernel
theorem dX14_lengthTold_4 : decode cX14_lengthTold 4 = .ok (.iload_n 2, 1) := by decide +kernel
theorem dX14_lengthTold_5 : decode cX14_lengthTold 5 = .ok (.aload_n 0, 1) := by decide +kernel
theorem dX14_lengthTold_6 : decode cX14_lengthTold 6 = .ok (.getfield 30, 3) := by decide +kernel
theorem dX14_lengthTold_9 : decode cX14_lengthTold 9 = .ok (.invokevirtual 222, 3) := by decide +kernel
theorem dX14_lengthTold_12 : decode cX14_lengthTold 12 = .ok (.if_icmp .ge 26, 3) := by decide +kernel
theorem dX14_lengthTold_15 : decode cX14_lengthTold 15 = .ok (.bipush 10, 2) := by decide +kernel
theorem dX14_lengthTold_17 : decode cX14_lengthTold 17 = .ok (.iload_n 1, 1) := by decide +kernel
theorem dX14_lengthTold_18 : decode cX14_lengthTold 18 = .ok (.imul, 1) := by decide +kernel
theorem dX14_lengthTold_19 : decode cX14_lengthTold 19 = .ok (.aload_n 0, 1) := by decide +kernel
theorem dX14_lengthTold_20 : decode cX14_lengthTold 20 = .ok (.getfield 30, 3) := by decide +kernel
theorem dX14_lengthTold_23 : decode cX14_lengthTold 23 = .ok (.iload_n 2, 1) := by decide +kernel
theorem dX14_lengthTold_24 : decode cX14_lengthTold 24 = .ok (.invokevirtual 223, 3) := by decide +kernel
theorem dX14_lengthTold_27 : decode cX14_lengthTold 27 = .ok (.iadd, 1) := by decide +kernel
theorem dX14_lengthTold_28 : decode cX14_lengthTold 28 = .ok (.bipush 48, 2) := by decide +kernel
theorem dX14_lengthTold_30 : decode cX14_lengthTold 30 = .ok (.isub, 1) := by decide +kernel
theorem dX14_lengthTold_31 : decode cX14_lengthTold 31 = .ok (.istore_n 1, 1) := by decide +kernel
theorem dX14_lengthTold_32 : decode cX14_lengthTold 32 = .ok (.iinc 2 1, 3) := by decide +kernel
theorem dX14_lengthTold_35 : decode cX14_lengthTold 35 = .ok (.goto (-31), 3) := by decide +kernel
theorem dX14_lengthTold_38 : decode cX14_lengthTold 38 = .ok (.iload_n 1, 1) := by decide +kernel
theorem dX14_lengthTold_39 : decode cX14_lengthTold 39 = .ok (.ireturn, 1) := by decide +kernel
def EX14_lengthTold : List (Nat × Nat) := []
set_option maxHeartbeats 4000000 in
set_option maxRecDepth 20000 in
theorem uX14_lengthTold (l : Launch) (dC : Nat → ClassId) (dI : Nat → Nat → Nat) (ca : Nat → ClassId) (base : Nat) (B : jF) (hB : jBok B) (hAp : jAp (dC, dI)) (hB0 : ∀ n G a H, B 0 n G a H ↔ jOb (dC, dI) 0 4 (Fz0 n G) a H) (hB16 : ∀ n G a H, B 16 n G a H ↔ jOb (dC, dI) 16 74 (F16 n G) a H) (hB198 : ∀ n G a H, B 198 n G a H ↔ jAr (dC, dI) (ca 0) (fun j z => jBf j z) n a H) (G0 : jT) (H0 : Heap) (r0 : Nat) (bv : Nat) (pc : Int32) (pa : Nat) (n_pa : Nat) (fv : Nat → Int32) : Met l yX14_lengthTold (jw yX14_lengthTold cX14_lengthTold 3 (some .int)) ({ frames := 4, cells := 0, slots := 0, locals := 106 }) (va_Pc [.ref r0] (fun U => U.heap = H0 ∧ jX B base G0 [] H0 ∧ jG dC dI ca base U ∧ G0 r0 = some (16, 0) ∧ G0 bv = some (0, 0) ∧ G0 pa = some (198, n_pa) ∧ jP (dC, dI) G0 H0 [(r0, 16, 14, .ref bv), (bv, 0, 3, .int pc), (bv, 0, 0, .ref pa)] ∧ jMc (dC, dI) G0 H0 [(pa, 198, n_pa, ca 0, fv)] ∧ 0 ≤ pc.toInt ∧ pc.toInt ≤ n_pa ∧ n_pa ≤ 1000 ∧ pc.toInt ≤ 4 ∧ jDg fv pc.toInt)) (va_Qi (S := Unit) (fun r u => (r.toInt = jNm fv (pc.toInt).toNat)) (fun u t => jRt (dC, dI) B base G0 EX14_lengthTold H0 [] t.heap) (jA base)) 0 0 (jA base) := by
  refine Met.ofW (cc := cX14_lengthTold) (maxL := 3) (ret := (some .int)) (by decide) rfl ?_
  intro p e s m args below meth c s₁ Bd hml hv
  obtain ⟨rfl, hH0, hX, hG, hg_r0, hg_bv, hg_pa, hP0, hM0, hp0, hp1, hp2, hp3, hp4⟩ := hv
  have hK := hG.1
  have hx := Bd.exec
  have hb := Bd.bytes
  have hr := Bd.returns
  have hts := atoms_spec (ws := (jw yX14_lengthTold cX14_lengthTold 3 (some .int))) Bd.pre
  have htw : ∀ w ∈ jWl, w.before _ s = true := fun w h => hts w (List.mem_cons_of_mem _ h)
  have hown : s.vm.findClass RX14 = some m.cls := findClass_of_methodNamed Bd.named
  have hlocks := Bd.notSynchronized
  obtain ⟨Q, hQ⟩ : ∃ Q, Q = MQ below (va_Qi (S := Unit) (fun r u => (r.toInt = jNm fv (pc.toInt).toNat)) (fun u t => jRt (dC, dI) B base G0 EX14_lengthTold H0 [] t.heap) (jA base)) ([.ref r0] : List Value).toArray s 0 0 (jA base) := ⟨_, rfl⟩
  rw [← hQ]
  have hl := lv_entry ([.ref r0]) (n := 3) (Nat.le_of_ble_eq_true rfl)
  rw [lg_entry_eq]
  generalize (lg_sl ([.ref r0]) ++ List.replicate (3 - (lg_sl ([.ref r0])).length) Slot.unset).toArray = ls at hl ⊢
  have hl : lv_has ls 3 [(0, .ref r0)] := hl
  generalize hR : (headSpec (jw yX14_lengthTold cX14_lengthTold 3 (some .int)) ({ frames := 4, cells := 0, slots := 0, locals := 106 })).room = R
  subst hH0
  have hh : jSt (dC, dI) B base G0 G0 EX14_lengthTold s.heap 0 0 [(r0, 16, 14, .ref bv), (bv, 0, 3, .int pc), (bv, 0, 0, .ref pa)] [(pa, 198, n_pa, ca 0, fv)] [] s.heap [] := jSt.start hX hP0 hM0 jIs.nil
  clear hX hP0
  have hk0 : (0 : Int32).toInt = 0 := by decide
  have hk1 : (1 : Int32).toInt = 1 := by decide
  have hk10 : (10 : Int32).toInt = 10 := by decide
  have hk48 : (48 : Int32).toInt = 48 := by decide
  have hly_16_14 := htw (u_lay RX14 TX14 14) (jWc_wsX140 _ (u_in_lay (by decide)))
  have hlk_30 := (htw (.fieldLink RX14 30 "ProofServerModel" "value" "Ljava/lang/StringBuilder;") (jWr_11 _ (List.mem_of_getElem? (i := 2) rfl)))
  refine lv_iconst (v := 0) hx hb dX14_lengthTold_0 (by decide) ?_
  refine lv_istore_n (lv' := [(1, .int 0), (0, .ref r0)]) hx hb dX14_lengthTold_1 rfl hl (by decide) rfl (fun ls hl => ?_)
  refine lv_iconst (v := 0) hx hb dX14_lengthTold_2 (by decide) ?_
  refine lv_istore_n (lv' := [(2, .int 0), (1, .int 0), (0, .ref r0)]) hx hb dX14_lengthTold_3 rfl hl (by decide) rfl (fun ls hl => ?_)
  have L4 : ∀ (N : Nat) (v1_1 : Int32) (v2_1 : Int32) (H_1 : Heap) (locs_1 : List Loc), jSt (dC, dI) B base G0 G0 EX14_lengthTold s.heap 0 0 [(r0, 16, 14, .ref bv), (bv, 0, 3, .int pc), (bv, 0, 0, .ref pa)] [(pa, 198, n_pa, ca 0, fv)] [] H_1 locs_1 → (0 ≤ v2_1.toInt ∧ v2_1.toInt ≤ pc.toInt ∧ v1_1.toInt = jNm fv (v2_1.toInt).toNat ∧ 0 ≤ v1_1.toInt ∧ (v2_1.toInt ≤ 0 → v1_1.toInt ≤ 0) ∧ (v2_1.toInt ≤ 1 → v1_1.toInt ≤ 9) ∧ (v2_1.toInt ≤ 2 → v1_1.toInt ≤ 99) ∧ (v2_1.toInt ≤ 3 → v1_1.toInt ≤ 999) ∧ v1_1.toInt ≤ 9999) → (pc.toInt - v2_1.toInt : Int) < N → ∀ ls : Array Slot, lv_has ls 3 [(0, .ref r0), (1, .int v1_1), (2, .int v2_1)] → W p l e R s m ([.ref r0] : List Value).toArray below meth c H_1 locs_1 0 0 Q (F0 m 4 ls []) := by
    intro N
    induction N with
    | zero => intro v1_1 v2_1 H_1 locs_1 hh_1  hi_1 hm; exact absurd hm (by omega)
    | succ N L4 =>
      intro v1_1 v2_1 H_1 locs_1 hh_1  hi_1 hm_1 ls hl
      obtain ⟨hi_1_0, hi_1_1, hi_1_2, hi_1_3, hi_1_4, hi_1_5, hi_1_6, hi_1_7, hi_1_8⟩ := hi_1
      refine lv_iload_n hx hb dX14_lengthTold_4 rfl (lv_at hl 2 rfl) ?_
      refine lv_aload_n hx hb dX14_lengthTold_5 rfl (lv_at hl 0 rfl) ?_
      refine j7_read hx hb hown hK (C := RX14) (T := TX14) (N := 74) rfl hly_16_14 hlk_30 (hh_1.at 0 rfl) dX14_lengthTold_6 ?_
      refine va_calli (A0 := jA base) (H0 := s.heap) (va_runV (As := []) (rest := [.int v2_1]) ⟨hx, hb, hml, hown, hts⟩ (uJ4_length_8abf5 l dC dI ca base B hB hAp hB0 G0 H_1 bv pc) (cwV 0 hts (jgV (jWr_48 _ (List.mem_of_getElem? (i := 17) rfl)) (jWr_48 _ (List.mem_of_getElem? (i := 18) rfl)) (jWr_48 _ (List.mem_of_getElem? (i := 19) rfl)) (jWr_11 _ (List.mem_of_getElem? (i := 0) rfl)) (jWr_48 _ (List.mem_of_getElem? (i := 20) rfl))) rfl rfl rfl (by decide +kernel) ⟨by rw [← hR]; exact Nat.le_of_ble_eq_true rfl, by rw [← hR]; exact Nat.le_of_ble_eq_true rfl⟩) ⟨fun a U g mk q => by obtain ⟨q0, q1, q2, qK, q10, q11, q12⟩ := q; exact ⟨q0, q1, q2, jG.calling g mk a qK, q10, q11, q12⟩, hh_1.recv (C := RJ4) (T := TJ4) (N := 4) hB0 rfl (by decide) hg_bv hK, fun U hU hW => ⟨rfl, hU, hh_1.2.1, hG.step hW hU hh_1.1, hg_bv, (hh_1.2.2.1.sub (L1 := [(bv, 0, 3, .int pc)]) [1] rfl), trivial⟩⟩ rfl rfl hl.1 rfl (lv_room (Nat.le_of_ble_eq_true rfl)) dX14_lengthTold_9 ⟨Nat.zero_le _, Nat.zero_le _⟩) hh_1.1 (fun q _ h => h) (fun q h => h) (fun r_3 u_2 t_2 H_2 locs_2 ht_2 hvm_2 hr_3 hb_2 hz_2 hk_2 hS_2 => ?_)
      rw [ht_2] at hb_2
      obtain ⟨hb_21, hb_22, hb_23, hb_24, hb_25⟩ := hb_2
      have hh_2 : jSt (dC, dI) B base G0 G0 EX14_lengthTold s.heap 0 0 [(r0, 16, 14, .ref bv), (bv, 0, 3, .int pc), (bv, 0, 0, .ref pa)] [(pa, 198, n_pa, ca 0, fv)] [] H_2 locs_2 := ((hh_1.call hb_21 hb_22 hb_23 hb_24 hS_2 rfl (L1 := [(r0, 16, 14, .ref bv), (bv, 0, 3, .int pc), (bv, 0, 0, .ref pa)]) [0, 1, 2] rfl rfl (M1 := [(pa, 198, n_pa, ca 0, fv)]) [0] rfl rfl (I1 := []) [] rfl rfl).more hb_25)
      clear hh_1 ht_2 hvm_2 hz_2 hk_2 hS_2 hb_21 hb_22 hb_23 hb_24 hb_25
      refine lv_icmp_ge (tgt := 38) hx hb dX14_lengthTold_12 (by decide) (fun c_4 => ?_) (fun c_4 => ?_)
      · skip
        have c_4' : v2_1.toInt ≥ r_3.toInt := jb_ge (rfl) (rfl) c_4
        refine lv_iload_n hx hb dX14_lengthTold_38 rfl (lv_at hl 1 rfl) ?_
        rw [hQ]
        exact W.iret (v := v1_1) hx hb hr (fun t ht hW => ⟨⟨v1_1, (), rfl, by rw [show pc.toInt = v2_1.toInt by omega]; exact hi_1_2, hh_2.rt (M1 := []) [] rfl ht⟩, by rw [ht]; try exact hh_2.1.1, fun q h9 hq => by rw [ht]; try exact hh_2.1.2.1 q h9 hq⟩) hh_2.1.2.2 dX14_lengthTold_39
      · skip
        have c_4' : v2_1.toInt < r_3.toInt := jb_ge_n (rfl) (rfl) c_4
        have hdg := hp4 v2_1.toInt (by omega) (by omega)
        refine lv_bipush (v := 10) hx hb dX14_lengthTold_15 (by decide) ?_
        refine lv_iload_n hx hb dX14_lengthTold_17 rfl (lv_at hl 1 rfl) ?_
        refine lv_imul hx hb dX14_lengthTold_18 ?_
        refine lv_topi (fun z_5 ez_5 => ?_)
        have hz_5 : z_5.toInt = 10 * v1_1.toInt := by rw [ez_5]; exact jb_imul2 ((by decide)) (rfl) (by omega)
        refine lv_aload_n hx hb dX14_lengthTold_19 rfl (lv_at hl 0 rfl) ?_
        refine j7_read hx hb hown hK (C := RX14) (T := TX14) (N := 74) rfl hly_16_14 hlk_30 (hh_2.at 0 rfl) dX14_lengthTold_20 ?_
        refine lv_iload_n hx hb dX14_lengthTold_23 rfl (lv_at hl 2 rfl) ?_
        refine va_calli (A0 := jA base) (H0 := s.heap) (va_runV (As := [.int v2_1]) (rest := [.int z_5]) ⟨hx, hb, hml, hown, hts⟩ (uJ4_charAt_5068e l dC dI ca base B hB hAp hB0 hB198 G0 H_2 bv v2_1 pc pa n_pa fv) (cwV 1 hts (jgV (jWr_49 _ (List.mem_of_getElem? (i := 2) rfl)) (jWr_49 _ (List.mem_of_getElem? (i := 3) rfl)) (jWr_49 _ (List.mem_of_getElem? (i := 4) rfl)) (jWr_11 _ (List.mem_of_getElem? (i := 0) rfl)) (jWr_49 _ (List.mem_of_getElem? (i := 5) rfl))) rfl rfl rfl (by decide +kernel) ⟨by rw [← hR]; exact Nat.le_of_ble_eq_true rfl, by rw [← hR]; exact Nat.le_of_ble_eq_true rfl⟩) ⟨fun a U g mk q => by obtain ⟨q0, q1, q2, qK, q10, q11, q12, q13, q14⟩ := q; exact ⟨q0, q1, q2, jG.calling g mk a qK, q10, q11, q12, q13, q14⟩, hh_2.recv (C := RJ4) (T := TJ4) (N := 4) hB0 rfl (by decide) hg_bv hK, fun U hU hW => ⟨rfl, hU, hh_2.2.1, hG.step hW hU hh_2.1, hg_bv, hg_pa, (hh_2.2.2.1.sub (L1 := [(bv, 0, 3, .int pc), (bv, 0, 0, .ref pa)]) [1, 2] rfl), (hh_2.2.2.2.2.2.2.2.1.sub (L1 := [(pa, 198, n_pa, ca 0, fv)]) [0] rfl), by first | omega | (refine ⟨?_, ?_, ?_, ?_⟩ <;> (first | omega | rfl | assumption | decide | exact Or.inl rfl | exact Or.inr rfl | (simp only; omega)))⟩⟩ rfl rfl hl.1 rfl (lv_room (Nat.le_of_ble_eq_true rfl)) dX14_lengthTold_24 ⟨Nat.zero_le _, Nat.zero_le _⟩) hh_2.1 (fun q _ h => h) (fun q h => h) (fun r_7 u_6 t_6 H_6 locs_6 ht_6 hvm_6 hr_7 hb_6 hz_6 hk_6 hS_6 => ?_)
        rw [ht_6] at hb_6
        obtain ⟨hb_61, hb_62, hb_63, hb_64, hb_65⟩ := hb_6
        have hh_6 : jSt (dC, dI) B base G0 G0 EX14_lengthTold s.heap 0 0 [(r0, 16, 14, .ref bv), (bv, 0, 3, .int pc), (bv, 0, 0, .ref pa)] [(pa, 198, n_pa, ca 0, fv)] [] H_6 locs_6 := ((hh_2.call hb_61 hb_62 hb_63 hb_64 hS_6 rfl (L1 := [(r0, 16, 14, .ref bv), (bv, 0, 3, .int pc), (bv, 0, 0, .ref pa)]) [0, 1, 2] rfl rfl (M1 := [(pa, 198, n_pa, ca 0, fv)]) [0] rfl rfl (I1 := []) [] rfl rfl).more hb_65)
        clear hh_2 ht_6 hvm_6 hz_6 hk_6 hS_6 hb_61 hb_62 hb_63 hb_64 hb_65
        obtain ⟨hr_7_0, hr_7_1, hr_7_2⟩ := hr_7
        refine lv_iadd hx hb dX14_lengthTold_27 ?_
        refine lv_topi (fun z_8 ez_8 => ?_)
        have hz_8 : z_8.toInt = z_5.toInt + r_7.toInt := by rw [ez_8]; exact jb_iadd2 (rfl) (rfl) (by omega)
        refine lv_bipush (v := 48) hx hb dX14_lengthTold_28 (by decide) ?_
        refine lv_isub hx hb dX14_lengthTold_30 ?_
        refine lv_topi (fun z_9 ez_9 => ?_)
        have hz_9 : z_9.toInt = z_8.toInt - 48 := by rw [ez_9]; exact jb_isub2 (rfl) ((by decide)) (by omega)
        refine lv_istore_n (lv' := [(1, .int z_9), (0, .ref r0), (2, .int v2_1)]) hx hb dX14_lengthTold_31 rfl hl (by decide) rfl (fun ls hl => ?_)
        obtain ⟨z_10, ez_10⟩ : ∃ y : Int32, y = v2_1 + 1 := ⟨_, rfl⟩
        refine lv_iinc (v := z_10) (lv' := [(2, .int z_10), (1, .int z_9), (0, .ref r0)]) hx hb dX14_lengthTold_32 hl (k := 2) rfl (by rw [ez_10]; rfl) (by decide) rfl (fun ls hl => ?_)
        have hz_10 : z_10.toInt = v2_1.toInt + 1 := by rw [ez_10]; exact jb_iadd2 (rfl) (by decide) (by omega)
        refine lv_goto (tgt := 4) hx hb dX14_lengthTold_35 (by decide) ?_
        exact L4 z_9 z_10 _ _ hh_6 (by have hd0 := hdg; refine ⟨by omega, by omega, jNm_s hi_1_2 (by omega) hr_7_2 (by omega) (by omega), by omega, by omega, by omega, by omega, by omega, by omega⟩) (by omega) _ (lv_sub hl [2, 1, 0] rfl)
  exact L4 (pc.toInt - (0 : Int32).toInt : Int).toNat.succ 0 0 _ _ hh (by refine ⟨by omega, by omega, by rw [hk0]; rfl, by omega, by omega, by omega, by omega, by omega, by omega⟩) (by omega) _ (lv_sub hl [2, 1, 0] rfl)
end
section
-- a method of the class above, called on this
theorem jgX {h : Cond} {own C owner : String} {idx : Nat} {x y : MethodName} {c : ByteArray} {n : Nat} {r : Option FieldType} (h1 : Cond.methodLink own idx x ∈ jWl) (h2 : Cond.sameMethod x.cls owner x.name x.desc ∈ jWl) (h3 : Cond.selects C x y ∈ jWl) (h4 : Cond.instanceMethod y ∈ jWl) (h5 : Cond.initialized y.cls ∈ jWl) (hc : Cond.code y c n r ∈ jWl) : GoodIn (h :: jWl) (va_wsU own idx C owner x y (jw y c n r)) :=
  jgL (fun w hw => by
    rcases List.mem_cons.mp hw with e | hw
    · rw [e]; exact h1
    rcases List.mem_cons.mp hw with e | hw
    · rw [e]; exact h2
    rcases List.mem_cons.mp hw with e | hw
    · rw [e]; exact h3
    rcases List.mem_cons.mp hw with e | hw
    · rw [e]; exact h4
    rw [List.mem_singleton.mp hw]; exact h5) (jgW hc)
theorem jb_shl0 (x : Int32) : x <<< ((0 : Int32) &&& 31) = x := by
  have h := pk_shl x ((0 : Int32) &&& 31) 0 (by decide)
  have h2 : (x <<< ((0 : Int32) &&& 31)).toBitVec = x.toBitVec := BitVec.eq_of_toNat_eq (by
    rw [h]
    have h3 := x.toBitVec.isLt
    omega)
  exact Int32.toBitVec_inj.mp h2
end
