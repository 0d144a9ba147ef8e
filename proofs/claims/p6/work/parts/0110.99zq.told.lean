section
theorem dX5_matches_0 : decode cX5_matches 0 = .ok (.aload_n 0, 1) := by decide +kernel
theorem dX5_matches_1 : decode cX5_matches 1 = .ok (.getfield 47, 3) := by decide +kernel
theorem dX5_matches_4 : decode cX5_matches 4 = .ok (.iconst 0, 1) := by decide +kernel
theorem dX5_matches_5 : decode cX5_matches 5 = .ok (.invokestatic 295, 3) := by decide +kernel
theorem dX5_matches_8 : decode cX5_matches 8 = .ok (.aload_n 0, 1) := by decide +kernel
theorem dX5_matches_9 : decode cX5_matches 9 = .ok (.aload 4, 2) := by decide +kernel
theorem dX5_matches_11 : decode cX5_matches 11 = .ok (.putfield 41, 3) := by decide +kernel
theorem dX5_matches_14 : decode cX5_matches 14 = .ok (.iconst 0, 1) := by decide +kernel
theorem dX5_matches_15 : decode cX5_matches 15 = .ok (.istore 5, 2) := by decide +kernel
theorem dX5_matches_17 : decode cX5_matches 17 = .ok (.iload_n 2, 1) := by decide +kernel
theorem dX5_matches_18 : decode cX5_matches 18 = .ok (.istore 6, 2) := by decide +kernel
theorem dX5_matches_20 : decode cX5_matches 20 = .ok (.iload 6, 2) := by decide +kernel
theorem dX5_matches_22 : decode cX5_matches 22 = .ok (.aload_n 1, 1) := by decide +kernel
theorem dX5_matches_23 : decode cX5_matches 23 = .ok (.arraylength, 1) := by decide +kernel
theorem dX5_matches_24 : decode cX5_matches 24 = .ok (.if_icmp .ge 126, 3) := by decide +kernel
theorem dX5_matches_27 : decode cX5_matches 27 = .ok (.iload 5, 2) := by decide +kernel
theorem dX5_matches_29 : decode cX5_matches 29 = .ok (.aload 4, 2) := by decide +kernel
theorem dX5_matches_31 : decode cX5_matches 31 = .ok (.arraylength, 1) := by decide +kernel
theorem dX5_matches_32 : decode cX5_matches 32 = .ok (.if_icmp .lt 5, 3) := by decide +kernel
theorem dX5_matches_35 : decode cX5_matches 35 = .ok (.iconst 0, 1) := by decide +kernel
theorem dX5_matches_36 : decode cX5_matches 36 = .ok (.ireturn, 1) := by decide +kernel
theorem dX5_matches_37 : decode cX5_matches 37 = .ok (.aload_n 1, 1) := by decide +kernel
theorem dX5_matches_38 : decode cX5_matches 38 = .ok (.iload 6, 2) := by decide +kernel
theorem dX5_matches_40 : decode cX5_matches 40 = .ok (.iaload, 1) := by decide +kernel
theorem dX5_matches_41 : decode cX5_matches 41 = .ok (.istore 7, 2) := by decide +kernel
theorem dX5_matches_43 : decode cX5_matches 43 = .ok (.iload 7, 2) := by decide +kernel
theorem dX5_matches_45 : decode cX5_matches 45 = .ok (.bipush 15, 2) := by decide +kernel
theorem dX5_matches_47 : decode cX5_matches 47 = .ok (.iand, 1) := by decide +kernel
theorem dX5_matches_48 : decode cX5_matches 48 = .ok (.bipush 10, 2) := by decide +kernel
theorem dX5_matches_50 : decode cX5_matches 50 = .ok (.if_icmp .ne 7, 3) := by decide +kernel
theorem dX5_matches_53 : decode cX5_matches 53 = .ok (.iconst 1, 1) := by decide +kernel
theorem dX5_matches_54 : decode cX5_matches 54 = .ok (.goto 4, 3) := by decide +kernel
theorem dX5_matches_57 : decode cX5_matches 57 = .ok (.iconst 0, 1) := by decide +kernel
theorem dX5_matches_58 : decode cX5_matches 58 = .ok (.istore 8, 2) := by decide +kernel
theorem dX5_matches_60 : decode cX5_matches 60 = .ok (.iload 8, 2) := by decide +kernel
theorem dX5_matches_62 : decode cX5_matches 62 = .ok (.ifCond .eq 49, 3) := by decide +kernel
theorem dX5_matches_65 : decode cX5_matches 65 = .ok (.iload 7, 2) := by decide +kernel
theorem dX5_matches_67 : decode cX5_matches 67 = .ok (.bipush 15, 2) := by decide +kernel
theorem dX5_matches_69 : decode cX5_matches 69 = .ok (.ishr, 1) := by decide +kernel
theorem dX5_matches_70 : decode cX5_matches 70 = .ok (.iload_n 3, 1) := by decide +kernel
theorem dX5_matches_71 : decode cX5_matches 71 = .ok (.if_icmp .ge 40, 3) := by decide +kernel
theorem dX5_matches_74 : decode cX5_matches 74 = .ok (.aload 4, 2) := by decide +kernel
theorem dX5_matches_76 : decode cX5_matches 76 = .ok (.iload 5, 2) := by decide +kernel
theorem dX5_matches_78 : decode cX5_matches 78 = .ok (.aload 4, 2) := by decide +kernel
theorem dX5_matches_80 : decode cX5_matches 80 = .ok (.arraylength, 1) := by decide +kernel
theorem dX5_matches_81 : decode cX5_matches 81 = .ok (.invokestatic 183, 3) := by decide +kernel
theorem dX5_matches_84 : decode cX5_matches 84 = .ok (.istore 9, 2) := by decide +kernel
theorem dX5_matches_86 : decode cX5_matches 86 = .ok (.aload_n 0, 1) := by decide +kernel
theorem dX5_matches_87 : decode cX5_matches 87 = .ok (.iload 7, 2) := by decide +kernel
theorem dX5_matches_89 : decode cX5_matches 89 = .ok (.bipush 15, 2) := by decide +kernel
theorem dX5_matches_91 : decode cX5_matches 91 = .ok (.ishr, 1) := by decide +kernel
theorem dX5_matches_92 : decode cX5_matches 92 = .ok (.iload 5, 2) := by decide +kernel
theorem dX5_matches_94 : decode cX5_matches 94 = .ok (.iload 9, 2) := by decide +kernel
theorem dX5_matches_96 : decode cX5_matches 96 = .ok (.invokevirtual 299, 3) := by decide +kernel
theorem dX5_matches_99 : decode cX5_matches 99 = .ok (.ifCond .ne 5, 3) := by decide +kernel
theorem dX5_matches_102 : decode cX5_matches 102 = .ok (.iconst 0, 1) := by decide +kernel
theorem dX5_matches_103 : decode cX5_matches 103 = .ok (.ireturn, 1) := by decide +kernel
theorem dX5_matches_104 : decode cX5_matches 104 = .ok (.iload 9, 2) := by decide +kernel
theorem dX5_matches_106 : decode cX5_matches 106 = .ok (.istore 5, 2) := by decide +kernel
theorem dX5_matches_108 : decode cX5_matches 108 = .ok (.goto 36, 3) := by decide +kernel
theorem dX5_matches_111 : decode cX5_matches 111 = .ok (.iload 8, 2) := by decide +kernel
theorem dX5_matches_113 : decode cX5_matches 113 = .ok (.ifCond .eq 13, 3) := by decide +kernel
theorem dX5_matches_116 : decode cX5_matches 116 = .ok (.iload 7, 2) := by decide +kernel
theorem dX5_matches_118 : decode cX5_matches 118 = .ok (.iload_n 3, 1) := by decide +kernel
theorem dX5_matches_119 : decode cX5_matches 119 = .ok (.bipush 15, 2) := by decide +kernel
theorem dX5_matches_121 : decode cX5_matches 121 = .ok (.ishl, 1) := by decide +kernel
theorem dX5_matches_122 : decode cX5_matches 122 = .ok (.isub, 1) := by decide +kernel
theorem dX5_matches_123 : decode cX5_matches 123 = .ok (.goto 5, 3) := by decide +kernel
theorem dX5_matches_126 : decode cX5_matches 126 = .ok (.iload 7, 2) := by decide +kernel
theorem dX5_matches_128 : decode cX5_matches 128 = .ok (.aload 4, 2) := by decide +kernel
theorem dX5_matches_130 : decode cX5_matches 130 = .ok (.iload 5, 2) := by decide +kernel
theorem dX5_matches_132 : decode cX5_matches 132 = .ok (.iaload, 1) := by decide +kernel
theorem dX5_matches_133 : decode cX5_matches 133 = .ok (.invokestatic 291, 3) := by decide +kernel
theorem dX5_matches_136 : decode cX5_matches 136 = .ok (.ifCond .ne 5, 3) := by decide +kernel
theorem dX5_matches_139 : decode cX5_matches 139 = .ok (.iconst 0, 1) := by decide +kernel
theorem dX5_matches_140 : decode cX5_matches 140 = .ok (.ireturn, 1) := by decide +kernel
theorem dX5_matches_141 : decode cX5_matches 141 = .ok (.iinc 5 1, 3) := by decide +kernel
theorem dX5_matches_144 : decode cX5_matches 144 = .ok (.iinc 6 1, 3) := by decide +kernel
theorem dX5_matches_147 : decode cX5_matches 147 = .ok (.goto (-127), 3) := by decide +kernel
theorem dX5_matches_150 : decode cX5_matches 150 = .ok (.iconst 1, 1) := by decide +kernel
theorem dX5_matches_151 : decode cX5_matches 151 = .ok (.istore 6, 2) := by decide +kernel
theorem dX5_matches_153 : decode cX5_matches 153 = .ok (.iconst 0, 1) := by decide +kernel
theorem dX5_matches_154 : decode cX5_matches 154 = .ok (.istore 7, 2) := by decide +kernel
theorem dX5_matches_156 : decode cX5_matches 156 = .ok (.iload 7, 2) := by decide +kernel
theorem dX5_matches_158 : decode cX5_matches 158 = .ok (.iload_n 3, 1) := by decide +kernel
theorem dX5_matches_159 : decode cX5_matches 159 = .ok (.if_icmp .ge 31, 3) := by decide +kernel
theorem dX5_matches_162 : decode cX5_matches 162 = .ok (.iload 6, 2) := by decide +kernel
theorem dX5_matches_164 : decode cX5_matches 164 = .ok (.ifCond .eq 17, 3) := by decide +kernel
theorem dX5_matches_167 : decode cX5_matches 167 = .ok (.aload_n 0, 1) := by decide +kernel
theorem dX5_matches_168 : decode cX5_matches 168 = .ok (.getfield 47, 3) := by decide +kernel
theorem dX5_matches_171 : decode cX5_matches 171 = .ok (.iload 7, 2) := by decide +kernel
theorem dX5_matches_173 : decode cX5_matches 173 = .ok (.iaload, 1) := by decide +kernel
theorem dX5_matches_174 : decode cX5_matches 174 = .ok (.ifCond .le 7, 3) := by decide +kernel
theorem dX5_matches_177 : decode cX5_matches 177 = .ok (.iconst 1, 1) := by decide +kernel
theorem dX5_matches_178 : decode cX5_matches 178 = .ok (.goto 4, 3) := by decide +kernel
theorem dX5_matches_181 : decode cX5_matches 181 = .ok (.iconst 0, 1) := by decide +kernel
theorem dX5_matches_182 : decode cX5_matches 182 = .ok (.istore 6, 2) := by decide +kernel
theorem dX5_matches_184 : decode cX5_matches 184 = .ok (.iinc 7 1, 3) := by decide +kernel
theorem dX5_matches_187 : decode cX5_matches 187 = .ok (.goto (-31), 3) := by decide +kernel
theorem dX5_matches_190 : decode cX5_matches 190 = .ok (.iload 6, 2) := by decide +kernel
theorem dX5_matches_192 : decode cX5_matches 192 = .ok (.ifCond .eq 15, 3) := by decide +kernel
theorem dX5_matches_195 : decode cX5_matches 195 = .ok (.iload 5, 2) := by decide +kernel
theorem dX5_matches_197 : decode cX5_matches 197 = .ok (.aload 4, 2) := by decide +kernel
theorem dX5_matches_199 : decode cX5_matches 199 = .ok (.arraylength, 1) := by decide +kernel
theorem dX5_matches_200 : decode cX5_matches 200 = .ok (.if_icmp .ne 7, 3) := by decide +kernel
theorem dX5_matches_203 : decode cX5_matches 203 = .ok (.iconst 1, 1) := by decide +kernel
theorem dX5_matches_204 : decode cX5_matches 204 = .ok (.goto 4, 3) := by decide +kernel
theorem dX5_matches_207 : decode cX5_matches 207 = .ok (.iconst 0, 1) := by decide +kernel
theorem dX5_matches_208 : decode cX5_matches 208 = .ok (.ireturn, 1) := by decide +kernel
theorem dX5_tells_0 : decode cX5_tells 0 = .ok (.aload_n 0, 1) := by decide +kernel
theorem dX5_tells_1 : decode cX5_tells 1 = .ok (.getfield 47, 3) := by decide +kernel
theorem dX5_tells_4 : decode cX5_tells 4 = .ok (.iload_n 1, 1) := by decide +kernel
theorem dX5_tells_5 : decode cX5_tells 5 = .ok (.iaload, 1) := by decide +kernel
theorem dX5_tells_6 : decode cX5_tells 6 = .ok (.ifCond .ne 7, 3) := by decide +kernel
theorem dX5_tells_9 : decode cX5_tells 9 = .ok (.iconst 1, 1) := by decide +kernel
theorem dX5_tells_10 : decode cX5_tells 10 = .ok (.goto 4, 3) := by decide +kernel
theorem dX5_tells_13 : decode cX5_tells 13 = .ok (.iconst 0, 1) := by decide +kernel
theorem dX5_tells_14 : decode cX5_tells 14 = .ok (.istore 4, 2) := by decide +kernel
theorem dX5_tells_16 : decode cX5_tells 16 = .ok (.iload 4, 2) := by decide +kernel
theorem dX5_tells_18 : decode cX5_tells 18 = .ok (.ifCond .ne 15, 3) := by decide +kernel
theorem dX5_tells_21 : decode cX5_tells 21 = .ok (.aload_n 0, 1) := by decide +kernel
theorem dX5_tells_22 : decode cX5_tells 22 = .ok (.getfield 47, 3) := by decide +kernel
theorem dX5_tells_25 : decode cX5_tells 25 = .ok (.iload_n 1, 1) := by decide +kernel
theorem dX5_tells_26 : decode cX5_tells 26 = .ok (.iaload, 1) := by decide +kernel
theorem dX5_tells_27 : decode cX5_tells 27 = .ok (.iload_n 3, 1) := by decide +kernel
theorem dX5_tells_28 : decode cX5_tells 28 = .ok (.iload_n 2, 1) := by decide +kernel
theorem dX5_tells_29 : decode cX5_tells 29 = .ok (.isub, 1) := by decide +kernel
theorem dX5_tells_30 : decode cX5_tells 30 = .ok (.if_icmp .ne 7, 3) := by decide +kernel
theorem dX5_tells_33 : decode cX5_tells 33 = .ok (.iconst 1, 1) := by decide +kernel
theorem dX5_tells_34 : decode cX5_tells 34 = .ok (.goto 4, 3) := by decide +kernel
theorem dX5_tells_37 : decode cX5_tells 37 = .ok (.iconst 0, 1) := by decide +kernel
theorem dX5_tells_38 : decode cX5_tells 38 = .ok (.istore 5, 2) := by decide +kernel
theorem dX5_tells_40 : decode cX5_tells 40 = .ok (.iload_n 2, 1) := by decide +kernel
theorem dX5_tells_41 : decode cX5_tells 41 = .ok (.istore 6, 2) := by decide +kernel
theorem dX5_tells_43 : decode cX5_tells 43 = .ok (.iload 6, 2) := by decide +kernel
theorem dX5_tells_45 : decode cX5_tells 45 = .ok (.iload_n 3, 1) := by decide +kernel
theorem dX5_tells_46 : decode cX5_tells 46 = .ok (.if_icmp .ge 75, 3) := by decide +kernel
theorem dX5_tells_49 : decode cX5_tells 49 = .ok (.iload 5, 2) := by decide +kernel
theorem dX5_tells_51 : decode cX5_tells 51 = .ok (.ifCond .eq 70, 3) := by decide +kernel
theorem dX5_tells_54 : decode cX5_tells 54 = .ok (.iload 4, 2) := by decide +kernel
theorem dX5_tells_56 : decode cX5_tells 56 = .ok (.ifCond .eq 26, 3) := by decide +kernel
theorem dX5_tells_59 : decode cX5_tells 59 = .ok (.aload_n 0, 1) := by decide +kernel
theorem dX5_tells_60 : decode cX5_tells 60 = .ok (.getfield 41, 3) := by decide +kernel
theorem dX5_tells_63 : decode cX5_tells 63 = .ok (.iload 6, 2) := by decide +kernel
theorem dX5_tells_65 : decode cX5_tells 65 = .ok (.iaload, 1) := by decide +kernel
theorem dX5_tells_66 : decode cX5_tells 66 = .ok (.bipush 15, 2) := by decide +kernel
theorem dX5_tells_68 : decode cX5_tells 68 = .ok (.iand, 1) := by decide +kernel
theorem dX5_tells_69 : decode cX5_tells 69 = .ok (.bipush 10, 2) := by decide +kernel
theorem dX5_tells_71 : decode cX5_tells 71 = .ok (.if_icmp .eq 7, 3) := by decide +kernel
theorem dX5_tells_74 : decode cX5_tells 74 = .ok (.iconst 1, 1) := by decide +kernel
theorem dX5_tells_75 : decode cX5_tells 75 = .ok (.goto 38, 3) := by decide +kernel
theorem dX5_tells_78 : decode cX5_tells 78 = .ok (.iconst 0, 1) := by decide +kernel
theorem dX5_tells_79 : decode cX5_tells 79 = .ok (.goto 34, 3) := by decide +kernel
theorem dX5_tells_82 : decode cX5_tells 82 = .ok (.aload_n 0, 1) := by decide +kernel
theorem dX5_tells_83 : decode cX5_tells 83 = .ok (.getfield 41, 3) := by decide +kernel
theorem dX5_tells_86 : decode cX5_tells 86 = .ok (.iload 6, 2) := by decide +kernel
theorem dX5_tells_88 : decode cX5_tells 88 = .ok (.iaload, 1) := by decide +kernel
theorem dX5_tells_89 : decode cX5_tells 89 = .ok (.aload_n 0, 1) := by decide +kernel
theorem dX5_tells_90 : decode cX5_tells 90 = .ok (.getfield 41, 3) := by decide +kernel
theorem dX5_tells_93 : decode cX5_tells 93 = .ok (.aload_n 0, 1) := by decide +kernel
theorem dX5_tells_94 : decode cX5_tells 94 = .ok (.getfield 44, 3) := by decide +kernel
theorem dX5_tells_97 : decode cX5_tells 97 = .ok (.iload_n 1, 1) := by decide +kernel
theorem dX5_tells_98 : decode cX5_tells 98 = .ok (.iaload, 1) := by decide +kernel
theorem dX5_tells_99 : decode cX5_tells 99 = .ok (.iload 6, 2) := by decide +kernel
theorem dX5_tells_101 : decode cX5_tells 101 = .ok (.iadd, 1) := by decide +kernel
theorem dX5_tells_102 : decode cX5_tells 102 = .ok (.iload_n 2, 1) := by decide +kernel
theorem dX5_tells_103 : decode cX5_tells 103 = .ok (.isub, 1) := by decide +kernel
theorem dX5_tells_104 : decode cX5_tells 104 = .ok (.iaload, 1) := by decide +kernel
theorem dX5_tells_105 : decode cX5_tells 105 = .ok (.if_icmp .ne 7, 3) := by decide +kernel
theorem dX5_tells_108 : decode cX5_tells 108 = .ok (.iconst 1, 1) := by decide +kernel
theorem dX5_tells_109 : decode cX5_tells 109 = .ok (.goto 4, 3) := by decide +kernel
theorem dX5_tells_112 : decode cX5_tells 112 = .ok (.iconst 0, 1) := by decide +kernel
theorem dX5_tells_113 : decode cX5_tells 113 = .ok (.istore 5, 2) := by decide +kernel
theorem dX5_tells_115 : decode cX5_tells 115 = .ok (.iinc 6 1, 3) := by decide +kernel
theorem dX5_tells_118 : decode cX5_tells 118 = .ok (.goto (-75), 3) := by decide +kernel
theorem dX5_tells_121 : decode cX5_tells 121 = .ok (.iload 5, 2) := by decide +kernel
theorem dX5_tells_123 : decode cX5_tells 123 = .ok (.ifCond .eq 24, 3) := by decide +kernel
theorem dX5_tells_126 : decode cX5_tells 126 = .ok (.iload 4, 2) := by decide +kernel
theorem dX5_tells_128 : decode cX5_tells 128 = .ok (.ifCond .eq 19, 3) := by decide +kernel
theorem dX5_tells_131 : decode cX5_tells 131 = .ok (.aload_n 0, 1) := by decide +kernel
theorem dX5_tells_132 : decode cX5_tells 132 = .ok (.getfield 44, 3) := by decide +kernel
theorem dX5_tells_135 : decode cX5_tells 135 = .ok (.iload_n 1, 1) := by decide +kernel
theorem dX5_tells_136 : decode cX5_tells 136 = .ok (.iload_n 2, 1) := by decide +kernel
theorem dX5_tells_137 : decode cX5_tells 137 = .ok (.iastore, 1) := by decide +kernel
theorem dX5_tells_138 : decode cX5_tells 138 = .ok (.aload_n 0, 1) := by decide +kernel
theorem dX5_tells_139 : decode cX5_tells 139 = .ok (.getfield 47, 3) := by decide +kernel
theorem dX5_tells_142 : decode cX5_tells 142 = .ok (.iload_n 1, 1) := by decide +kernel
theorem dX5_tells_143 : decode cX5_tells 143 = .ok (.iload_n 3, 1) := by decide +kernel
theorem dX5_tells_144 : decode cX5_tells 144 = .ok (.iload_n 2, 1) := by decide +kernel
theorem dX5_tells_145 : decode cX5_tells 145 = .ok (.isub, 1) := by decide +kernel
theorem dX5_tells_146 : decode cX5_tells 146 = .ok (.iastore, 1) := by decide +kernel
theorem dX5_tells_147 : decode cX5_tells 147 = .ok (.iload 5, 2) := by decide +kernel
theorem dX5_tells_149 : decode cX5_tells 149 = .ok (.ireturn, 1) := by decide +kernel
theorem dX5_variable_0 : decode cX5_variable 0 = .ok (.aload_n 0, 1) := by decide +kernel
theorem dX5_variable_1 : decode cX5_variable 1 = .ok (.getfield 50, 3) := by decide +kernel
theorem dX5_variable_4 : decode cX5_variable 4 = .ok (.iconst 0, 1) := by decide +kernel
theorem dX5_variable_5 : decode cX5_variable 5 = .ok (.bipush 9, 2) := by decide +kernel
theorem dX5_variable_7 : decode cX5_variable 7 = .ok (.iload_n 1, 1) := by decide +kernel
theorem dX5_variable_8 : decode cX5_variable 8 = .ok (.bipush 15, 2) := by decide +kernel
theorem dX5_variable_10 : decode cX5_variable 10 = .ok (.ishl, 1) := by decide +kernel
theorem dX5_variable_11 : decode cX5_variable 11 = .ok (.ior, 1) := by decide +kernel
theorem dX5_variable_12 : decode cX5_variable 12 = .ok (.iastore, 1) := by decide +kernel
theorem dX5_variable_13 : decode cX5_variable 13 = .ok (.aload_n 0, 1) := by decide +kernel
theorem dX5_variable_14 : decode cX5_variable 14 = .ok (.getfield 50, 3) := by decide +kernel
theorem dX5_variable_17 : decode cX5_variable 17 = .ok (.areturn, 1) := by decide +kernel
def EX5_variable : List (Nat × Nat) := [(280, 0)]
def EJ7_fill_53178P : List (Nat × Nat) := [(291, 0)]
def EX5_tells : List (Nat × Nat) := [(290, 0), (291, 0)]
def EX5_matches : List (Nat × Nat) := [(7, 5), (290, 0), (291, 0)]
set_option maxHeartbeats 4000000 in
set_option maxRecDepth 20000 in
theorem uX5_variable (l : Launch) (dC : Nat → ClassId) (dI : Nat → Nat → Nat) (ca : Nat → ClassId) (base : Nat) (B : jF) (hB : jBok B) (hAp : jAp (dC, dI)) (hB7 : ∀ n G a H, B 7 n G a H ↔ jOb (dC, dI) 7 11 (F7 n G) a H) (hB280 : ∀ n G a H, B 280 n G a H ↔ jAr (dC, dI) (ca 1) (fun j z => -1 ≤ z.toInt) n a H) (G0 : jT) (H0 : Heap) (r0 : Nat) (a1 : Int32) : Met l yX5_variable (jw yX5_variable cX5_variable 2 (some (.array .int))) ({ frames := 0, cells := 0, slots := 0, locals := 0 }) (va_Pc [.ref r0, .int a1] (fun U => U.heap = H0 ∧ jX B base G0 [] H0 ∧ jG dC dI ca base U ∧ G0 r0 = some (7, 0) ∧ jP (dC, dI) G0 H0 [] ∧ 0 ≤ a1.toInt ∧ a1.toInt ≤ 65535)) (jQx (S := Unit) (fun v u => jRf G0 280 1 v) (fun u t => jRt (dC, dI) B base G0 EX5_variable H0 [] t.heap) (jA base)) 0 0 (jA base) := by
  refine Met.ofW (cc := cX5_variable) (maxL := 2) (ret := (some (.array .int))) (by decide) rfl ?_
  intro p e s m args below meth c s₁ Bd hml hv
  obtain ⟨rfl, hH0, hX, hG, hg_r0, hP0, hp0, hp1⟩ := hv
  have hK := hG.1
  have hx := Bd.exec
  have hb := Bd.bytes
  have hr := Bd.returns
  have hts := atoms_spec (ws := (jw yX5_variable cX5_variable 2 (some (.array .int)))) Bd.pre
  have htw : ∀ w ∈ jWl, w.before _ s = true := fun w h => hts w (List.mem_cons_of_mem _ h)
  have hown : s.vm.findClass RX5 = some m.cls := findClass_of_methodNamed Bd.named
  have hlocks := Bd.notSynchronized
  obtain ⟨Q, hQ⟩ : ∃ Q, Q = MQ below (jQx (S := Unit) (fun v u => jRf G0 280 1 v) (fun u t => jRt (dC, dI) B base G0 EX5_variable H0 [] t.heap) (jA base)) ([.ref r0, .int a1] : List Value).toArray s 0 0 (jA base) := ⟨_, rfl⟩
  rw [← hQ]
  have hl := lv_entry ([.ref r0, .int a1]) (n := 2) (Nat.le_of_ble_eq_true rfl)
  rw [lg_entry_eq]
  generalize (lg_sl ([.ref r0, .int a1]) ++ List.replicate (2 - (lg_sl ([.ref r0, .int a1])).length) Slot.unset).toArray = ls at hl ⊢
  have hl : lv_has ls 2 [(0, .ref r0), (1, .int a1)] := hl
  generalize hR : (headSpec (jw yX5_variable cX5_variable 2 (some (.array .int))) ({ frames := 0, cells := 0, slots := 0, locals := 0 })).room = R
  subst hH0
  have hh : jSt (dC, dI) B base G0 G0 EX5_variable s.heap 0 0 [] [] [] s.heap [] := jSt.start hX hP0 jMc.nil jIs.nil
  clear hX hP0
  have hk0 : (0 : Int32).toInt = 0 := by decide
  have hk1 : (1 : Int32).toInt = 1 := by decide
  have hk9 : (9 : Int32).toInt = 9 := by decide
  have hk15 : (15 : Int32).toInt = 15 := by decide
  have hly_7_8 := htw (u_lay RX5 TX5 8) (jWc_wsX50 _ (u_in_lay (by decide)))
  have hlk_50 := (htw (.fieldLink RX5 50 "ProofServer$Kernel" "single" "[I") (jWr_5 _ (List.mem_of_getElem? (i := 1) rfl)))
  have hrg_a1 := jb_rng a1
  refine lv_aload_n hx hb dX5_variable_0 rfl (lv_at hl 0 rfl) ?_
  obtain ⟨v_1, hv_1, hh_2⟩ := hh.pin (C := RX5) (T := TX5) (N := 11) hB7 rfl (by decide) hg_r0 (i := 8) (by decide) rfl
  clear hh
  obtain ⟨single_3, rfl, hg_single_3⟩ := hv_1
  refine j7_read hx hb hown hK (C := RX5) (T := TX5) (N := 11) rfl hly_7_8 hlk_50 (hh_2.at 0 rfl) dX5_variable_1 ?_
  refine lv_iconst (v := 0) hx hb dX5_variable_4 (by decide) ?_
  refine lv_bipush (v := 9) hx hb dX5_variable_5 (by decide) ?_
  refine lv_iload_n hx hb dX5_variable_7 rfl (lv_at hl 1 rfl) ?_
  refine lv_bipush (v := 15) hx hb dX5_variable_8 (by decide) ?_
  refine lv_ishl hx hb dX5_variable_10 ?_
  refine lv_topi (fun z_4 ez_4 => ?_)
  have hbz_4 := jb_shlc 15 32768 ez_4 (by decide) (by decide) (by omega) (by omega)
  refine lv_ior hx hb dX5_variable_11 ?_
  refine lv_topi (fun z_5 ez_5 => ?_)
  have hbz_5 := jb_or ez_5 (by omega) (by omega)
  refine j7_iast hx hb hK hh_2 hB hB280 1 rfl (by decide) (by decide) rfl rfl rfl hg_single_3 (x := 0) ((by decide)) (by omega) (by first | omega | rfl | assumption | decide | exact Or.inl rfl | exact Or.inr rfl | (simp only; omega)) dX5_variable_12 (fun H_6 locs_6 hh_6 => ?_)
  clear hh_2
  refine lv_aload_n hx hb dX5_variable_13 rfl (lv_at hl 0 rfl) ?_
  refine j7_read hx hb hown hK (C := RX5) (T := TX5) (N := 11) rfl hly_7_8 hlk_50 (hh_6.at 0 rfl) dX5_variable_14 ?_
  rw [hQ]
  exact W.aret (v := .ref single_3) hx hb hr (Or.inr ⟨_, rfl⟩) (Or.inr ⟨_, rfl⟩) (fun t ht hW => ⟨⟨.ref single_3, (), rfl, ⟨_, rfl, hg_single_3⟩, hh_6.rt (M1 := []) [] rfl ht⟩, by rw [ht]; try exact hh_6.1.1, fun q h9 hq => by rw [ht]; try exact hh_6.1.2.1 q h9 hq⟩) hh_6.1.2.2 dX5_variable_17
set_option maxHeartbeats 4000000 in
set_option maxRecDepth 20000 in
theorem uJ7_fill_53178P (l : Launch) (dC : Nat → ClassId) (dI : Nat → Nat → Nat) (ca : Nat → ClassId) (base : Nat) (B : jF) (hB : jBok B) (hAp : jAp (dC, dI)) (hB291 : ∀ n G a H, B 291 n G a H ↔ jAr (dC, dI) (ca 1) (fun j z => 0 ≤ z.toInt ∧ z.toInt ≤ 3000) n a H) (G0 : jT) (H0 : Heap) (r0 : Nat) (a1 : Int32) (n0 : Nat) (f0 : Nat → Int32) : Met l yJ7_fill_53178 (jw yJ7_fill_53178 cJ7_fill_53178 4 none) ({ frames := 0, cells := 0, slots := 0, locals := 0 }) (va_Pc [.ref r0, .int a1] (fun U => U.heap = H0 ∧ jX B base G0 [] H0 ∧ jG dC dI ca base U ∧ G0 r0 = some (291, n0) ∧ jP (dC, dI) G0 H0 [] ∧ jMc (dC, dI) G0 H0 [(r0, 291, n0, ca 1, f0)] ∧ n0 ≤ 100000 ∧ a1.toInt = 0)) (va_Qv (S := (Nat → Int32)) (fun u => jZe u n0) (fun u t => jRt (dC, dI) B base G0 EJ7_fill_53178P H0 [] t.heap ∧ jMc (dC, dI) G0 t.heap [(r0, 291, n0, ca 1, u)]) (jA base)) 0 0 (jA base) := by
  refine Met.ofW (cc := cJ7_fill_53178) (maxL := 4) (ret := none) (by decide) rfl ?_
  intro p e s m args below meth c s₁ Bd hml hv
  obtain ⟨rfl, hH0, hX, hG, hg_r0, hP0, hM0, hp0, hp1⟩ := hv
  have hK := hG.1
  have hx := Bd.exec
  have hb := Bd.bytes
  have hr := Bd.returns
  have hts := atoms_spec (ws := (jw yJ7_fill_53178 cJ7_fill_53178 4 none)) Bd.pre
  have htw : ∀ w ∈ jWl, w.before _ s = true := fun w h => hts w (List.mem_cons_of_mem _ h)
  have hown : s.vm.findClass RJ7 = some m.cls := findClass_of_methodNamed Bd.named
  have hlocks := Bd.notSynchronized
  obtain ⟨Q, hQ⟩ : ∃ Q, Q = MQ below (va_Qv (S := (Nat → Int32)) (fun u => jZe u n0) (fun u t => jRt (dC, dI) B base G0 EJ7_fill_53178P H0 [] t.heap ∧ jMc (dC, dI) G0 t.heap [(r0, 291, n0, ca 1, u)]) (jA base)) ([.ref r0, .int a1] : List Value).toArray s 0 0 (jA base) := ⟨_, rfl⟩
  rw [← hQ]
  have hl := lv_entry ([.ref r0, .int a1]) (n := 4) (Nat.le_of_ble_eq_true rfl)
  rw [lg_entry_eq]
  generalize (lg_sl ([.ref r0, .int a1]) ++ List.replicate (4 - (lg_sl ([.ref r0, .int a1])).length) Slot.unset).toArray = ls at hl ⊢
  have hl : lv_has ls 4 [(0, .ref r0), (1, .int a1)] := hl
  generalize hR : (headSpec (jw yJ7_fill_53178 cJ7_fill_53178 4 none) ({ frames := 0, cells := 0, slots := 0, locals := 0 })).room = R
  subst hH0
  have hh : jSt (dC, dI) B base G0 G0 EJ7_fill_53178P s.heap 0 0 [] [(r0, 291, n0, ca 1, f0)] [] s.heap [] := jSt.start hX hP0 hM0 jIs.nil
  clear hX hP0
  have hk0 : (0 : Int32).toInt = 0 := by decide
  have hk1 : (1 : Int32).toInt = 1 := by decide
  have hrg_a1 := jb_rng a1
  refine lv_iconst (v := 0) hx hb dJ7_fill_53178_0 (by decide) ?_
  refine lv_istore_n (lv' := [(2, .int 0), (0, .ref r0), (1, .int a1)]) hx hb dJ7_fill_53178_1 rfl hl (by decide) rfl (fun ls hl => ?_)
  refine lv_aload_n hx hb dJ7_fill_53178_2 rfl (lv_at hl 1 rfl) ?_
  refine j7_len hx hb hK hh hB291 1 rfl (by decide) hg_r0 (by omega) dJ7_fill_53178_3 (fun z_1 hz_1 => ?_)
  refine lv_istore_n (lv' := [(3, .int z_1), (2, .int 0), (0, .ref r0), (1, .int a1)]) hx hb dJ7_fill_53178_4 rfl hl (by decide) rfl (fun ls hl => ?_)
  have L5 : ∀ (N : Nat) (v2_2 : Int32) (f0_2 : Nat → Int32) (H_2 : Heap) (locs_2 : List Loc), jSt (dC, dI) B base G0 G0 EJ7_fill_53178P s.heap 0 0 [] [(r0, 291, n0, ca 1, f0_2)] [] H_2 locs_2 → (0 ≤ v2_2.toInt ∧ v2_2.toInt ≤ n0 ∧ jZe f0_2 v2_2.toInt) → (n0 - v2_2.toInt : Int) < N → ∀ ls : Array Slot, lv_has ls 4 [(0, .ref r0), (1, .int a1), (2, .int v2_2), (3, .int z_1)] → W p l e R s m ([.ref r0, .int a1] : List Value).toArray below meth c H_2 locs_2 0 0 Q (F0 m 5 ls []) := by
    intro N
    induction N with
    | zero => intro v2_2 f0_2 H_2 locs_2 hh_2  hi_2 hm; exact absurd hm (by omega)
    | succ N L5 =>
      intro v2_2 f0_2 H_2 locs_2 hh_2  hi_2 hm_2 ls hl
      obtain ⟨hi_2_0, hi_2_1, hi_2_2⟩ := hi_2
      refine lv_iload_n hx hb dJ7_fill_53178_5 rfl (lv_at hl 2 rfl) ?_
      refine lv_iload_n hx hb dJ7_fill_53178_6 rfl (lv_at hl 3 rfl) ?_
      refine lv_icmp_ge (tgt := 20) hx hb dJ7_fill_53178_7 (by decide) (fun c_3 => ?_) (fun c_3 => ?_)
      · skip
        have c_3' : v2_2.toInt ≥ z_1.toInt := jb_ge (rfl) (rfl) c_3
        rw [hQ]
        exact W.vret hx hb hr (fun t ht hW => ⟨⟨f0_2, rfl, by (try dsimp only); rw [show (n0 : Int) = v2_2.toInt by omega]; exact hi_2_2, ⟨hh_2.rt (M1 := []) [] rfl ht, by rw [ht]; exact hh_2.2.2.2.2.2.2.2.1.sub [0] rfl⟩⟩, by rw [ht]; try exact hh_2.1.1, fun q h9 hq => by rw [ht]; try exact hh_2.1.2.1 q h9 hq⟩) hh_2.1.2.2 dJ7_fill_53178_20
      · skip
        have c_3' : v2_2.toInt < z_1.toInt := jb_ge_n (rfl) (rfl) c_3
        refine lv_aload_n hx hb dJ7_fill_53178_10 rfl (lv_at hl 0 rfl) ?_
        refine lv_iload_n hx hb dJ7_fill_53178_11 rfl (lv_at hl 2 rfl) ?_
        refine lv_iload_n hx hb dJ7_fill_53178_12 rfl (lv_at hl 1 rfl) ?_
        refine j7_iastU hx hb hK hh_2 hB hB291 1 rfl (by decide) (by decide) rfl 0 rfl (M1 := []) [] rfl rfl rfl hg_r0 (x := v2_2.toInt) (rfl) (by omega) (by first | omega | (refine ⟨?_, ?_⟩ <;> (first | omega | rfl | assumption | decide | exact Or.inl rfl | exact Or.inr rfl | (simp only; omega)))) dJ7_fill_53178_13 (fun H_4 locs_4 fs_5 hv_4 ho_4 hh_4 => ?_)
        have hv_4 : jSo fs_5 (v2_2.toInt) = a1.toInt := by unfold jSo; rw [hv_4]; try exact rfl
        clear hh_2
        obtain ⟨z_6, ez_6⟩ : ∃ y : Int32, y = v2_2 + 1 := ⟨_, rfl⟩
        refine lv_iinc (v := z_6) (lv' := [(2, .int z_6), (0, .ref r0), (1, .int a1), (3, .int z_1)]) hx hb dJ7_fill_53178_14 hl (k := 2) rfl (by rw [ez_6]; rfl) (by decide) rfl (fun ls hl => ?_)
        have hz_6 : z_6.toInt = v2_2.toInt + 1 := by rw [ez_6]; exact jb_iadd2 (rfl) (by decide) (by omega)
        refine lv_goto (tgt := 5) hx hb dJ7_fill_53178_17 (by decide) ?_
        exact L5 z_6 fs_5 _ _ hh_4 (by refine ⟨by omega, by omega, ?_⟩; exact hi_2_2.step (by omega) (by omega) (by omega) (by rw [hv_4]; omega) ho_4) (by omega) _ (lv_sub hl [1, 2, 0, 3] rfl)
  exact L5 (n0 - (0 : Int32).toInt : Int).toNat.succ 0 f0 _ _ hh (by refine ⟨by omega, by omega, jZe.zero (by omega)⟩) (by omega) _ (lv_sub hl [2, 3, 1, 0] rfl)
set_option maxHeartbeats 4000000 in
set_option maxRecDepth 20000 in
theorem uX5_tells (l : Launch) (dC : Nat → ClassId) (dI : Nat → Nat → Nat) (ca : Nat → ClassId) (base : Nat) (B : jF) (hB : jBok B) (hAp : jAp (dC, dI)) (hB7 : ∀ n G a H, B 7 n G a H ↔ jOb (dC, dI) 7 11 (F7 n G) a H) (hB280 : ∀ n G a H, B 280 n G a H ↔ jAr (dC, dI) (ca 1) (fun j z => -1 ≤ z.toInt) n a H) (hB290 : ∀ n G a H, B 290 n G a H ↔ jAr (dC, dI) (ca 1) (fun j z => 0 ≤ z.toInt ∧ z.toInt ≤ 3000) n a H) (hB291 : ∀ n G a H, B 291 n G a H ↔ jAr (dC, dI) (ca 1) (fun j z => 0 ≤ z.toInt ∧ z.toInt ≤ 3000) n a H) (G0 : jT) (H0 : Heap) (r0 : Nat) (a1 : Int32) (a2 : Int32) (a3 : Int32) (so : Nat) (n_so : Nat) (xf : Nat) (xt : Nat) (fx : Nat → Int32) (ft : Nat → Int32) : Met l yX5_tells (jw yX5_tells cX5_tells 7 (some .boolean)) ({ frames := 0, cells := 0, slots := 0, locals := 0 }) (va_Pc [.ref r0, .int a1, .int a2, .int a3] (fun U => U.heap = H0 ∧ jX B base G0 [] H0 ∧ jG dC dI ca base U ∧ G0 r0 = some (7, 0) ∧ G0 so = some (280, n_so) ∧ G0 xf = some (290, 13) ∧ G0 xt = some (291, 13) ∧ jP (dC, dI) G0 H0 [(r0, 7, 5, .ref so), (r0, 7, 6, .ref xf), (r0, 7, 7, .ref xt)] ∧ jMc (dC, dI) G0 H0 [(xf, 290, 13, ca 1, fx), (xt, 291, 13, ca 1, ft)] ∧ jTt fx ft n_so ∧ 0 ≤ a1.toInt ∧ a1.toInt ≤ 11 ∧ 0 ≤ a2.toInt ∧ a2.toInt ≤ a3.toInt ∧ a3.toInt ≤ n_so ∧ n_so ≤ 3000)) (va_Qi (S := (Nat → Int32) × (Nat → Int32)) (fun r u => (r = 0 ∨ r = 1) ∧ (jTt u.1 u.2 n_so)) (fun u t => jRt (dC, dI) B base G0 EX5_tells H0 [] t.heap ∧ jMc (dC, dI) G0 t.heap [(xf, 290, 13, ca 1, u.1), (xt, 291, 13, ca 1, u.2)]) (jA base)) 0 0 (jA base) := by
  refine Met.ofW (cc := cX5_tells) (maxL := 7) (ret := (some .boolean)) (by decide) rfl ?_
  intro p e s m args below meth c s₁ Bd hml hv
  obtain ⟨rfl, hH0, hX, hG, hg_r0, hg_so, hg_xf, hg_xt, hP0, hM0, hp0, hp1, hp2, hp3, hp4, hp5, hp6⟩ := hv
  have hK := hG.1
  have hx := Bd.exec
  have hb := Bd.bytes
  have hr := Bd.returns
  have hts := atoms_spec (ws := (jw yX5_tells cX5_tells 7 (some .boolean))) Bd.pre
  have htw : ∀ w ∈ jWl, w.before _ s = true := fun w h => hts w (List.mem_cons_of_mem _ h)
  have hown : s.vm.findClass RX5 = some m.cls := findClass_of_methodNamed Bd.named
  have hlocks := Bd.notSynchronized
  obtain ⟨Q, hQ⟩ : ∃ Q, Q = MQ below (va_Qi (S := (Nat → Int32) × (Nat → Int32)) (fun r u => (r = 0 ∨ r = 1) ∧ (jTt u.1 u.2 n_so)) (fun u t => jRt (dC, dI) B base G0 EX5_tells H0 [] t.heap ∧ jMc (dC, dI) G0 t.heap [(xf, 290, 13, ca 1, u.1), (xt, 291, 13, ca 1, u.2)]) (jA base)) ([.ref r0, .int a1, .int a2, .int a3] : List Value).toArray s 0 0 (jA base) := ⟨_, rfl⟩
  rw [← hQ]
  have hl := lv_entry ([.ref r0, .int a1, .int a2, .int a3]) (n := 7) (Nat.le_of_ble_eq_true rfl)
  rw [lg_entry_eq]
  generalize (lg_sl ([.ref r0, .int a1, .int a2, .int a3]) ++ List.replicate (7 - (lg_sl ([.ref r0, .int a1, .int a2, .int a3])).length) Slot.unset).toArray = ls at hl ⊢
  have hl : lv_has ls 7 [(0, .ref r0), (1, .int a1), (2, .int a2), (3, .int a3)] := hl
  generalize hR : (headSpec (jw yX5_tells cX5_tells 7 (some .boolean)) ({ frames := 0, cells := 0, slots := 0, locals := 0 })).room = R
  subst hH0
  have hh : jSt (dC, dI) B base G0 G0 EX5_tells s.heap 0 0 [(r0, 7, 5, .ref so), (r0, 7, 6, .ref xf), (r0, 7, 7, .ref xt)] [(xf, 290, 13, ca 1, fx), (xt, 291, 13, ca 1, ft)] [] s.heap [] := jSt.start hX hP0 hM0 jIs.nil
  clear hX hP0
  have hk0 : (0 : Int32).toInt = 0 := by decide
  have hk1 : (1 : Int32).toInt = 1 := by decide
  have hk10 : (10 : Int32).toInt = 10 := by decide
  have hk15 : (15 : Int32).toInt = 15 := by decide
  have hly_7_5 := htw (u_lay RX5 TX5 5) (jWc_wsX50 _ (u_in_lay (by decide)))
  have hly_7_6 := htw (u_lay RX5 TX5 6) (jWc_wsX50 _ (u_in_lay (by decide)))
  have hly_7_7 := htw (u_lay RX5 TX5 7) (jWc_wsX50 _ (u_in_lay (by decide)))
  have hlk_47 := (htw (.fieldLink RX5 47 "ProofServer$Kernel" "termSize" "[I") (jWr_5 _ (List.mem_of_getElem? (i := 0) rfl)))
  have hlk_41 := (htw (.fieldLink RX5 41 "ProofServer$Kernel" "source" "[I") (jWr_4 _ (List.mem_of_getElem? (i := 22) rfl)))
  have hlk_44 := (htw (.fieldLink RX5 44 "ProofServer$Kernel" "termFrom" "[I") (jWr_4 _ (List.mem_of_getElem? (i := 23) rfl)))
  have hrg_a1 := jb_rng a1
  have hrg_a2 := jb_rng a2
  have hrg_a3 := jb_rng a3
  refine lv_aload_n hx hb dX5_tells_0 rfl (lv_at hl 0 rfl) ?_
  refine j7_read hx hb hown hK (C := RX5) (T := TX5) (N := 11) rfl hly_7_7 hlk_47 (hh.at 2 rfl) dX5_tells_1 ?_
  refine lv_iload_n hx hb dX5_tells_4 rfl (lv_at hl 1 rfl) ?_
  refine j7_ialdM hx hb hK hh hB291 1 rfl (by decide) hg_xt (x := a1.toInt) (rfl) (by omega) (j := 1) rfl dX5_tells_5 (fun z_1 ez_1 (hz_1 : 0 ≤ z_1.toInt ∧ z_1.toInt ≤ 3000) => ?_)
  have hqz_1 : z_1.toInt = jSo ft (a1.toInt) := by unfold jSo; rw [ez_1]
  have C14 : ∀ (w0_2 : Int32) (H_2 : Heap) (locs_2 : List Loc), jSt (dC, dI) B base G0 G0 EX5_tells s.heap 0 0 [(r0, 7, 5, .ref so), (r0, 7, 6, .ref xf), (r0, 7, 7, .ref xt)] [(xf, 290, 13, ca 1, fx), (xt, 291, 13, ca 1, ft)] [] H_2 locs_2 → (w0_2 = 0 ∨ w0_2 = 1) → (w0_2.toInt = 1 ∨ 0 < jSo ft a1.toInt) → ∀ ls : Array Slot, lv_has ls 7 [(0, .ref r0), (1, .int a1), (2, .int a2), (3, .int a3)] → W p l e R s m ([.ref r0, .int a1, .int a2, .int a3] : List Value).toArray below meth c H_2 locs_2 0 0 Q (F0 m 14 ls [.int w0_2]) := by
    intro w0_2 H_2 locs_2 hh_2 hb_w0_2 hi_2 ls hl
    have hb_w0_2' := jb_01 hb_w0_2
    refine lv_istore (lv' := [(4, .int w0_2), (0, .ref r0), (1, .int a1), (2, .int a2), (3, .int a3)]) hx hb dX5_tells_14 hl (by decide) rfl (fun ls hl => ?_)
    refine lv_iload hx hb dX5_tells_16 (lv_at hl 0 rfl) ?_
    have C38 : ∀ (w0_3 : Int32) (H_3 : Heap) (locs_3 : List Loc), jSt (dC, dI) B base G0 G0 EX5_tells s.heap 0 0 [(r0, 7, 5, .ref so), (r0, 7, 6, .ref xf), (r0, 7, 7, .ref xt)] [(xf, 290, 13, ca 1, fx), (xt, 291, 13, ca 1, ft)] [] H_3 locs_3 → (w0_3 = 0 ∨ w0_3 = 1) → (w0_3.toInt = 0 ∨ w0_2.toInt = 1 ∨ jSo ft a1.toInt = a3.toInt - a2.toInt) → ∀ ls : Array Slot, lv_has ls 7 [(0, .ref r0), (1, .int a1), (2, .int a2), (3, .int a3), (4, .int w0_2)] → W p l e R s m ([.ref r0, .int a1, .int a2, .int a3] : List Value).toArray below meth c H_3 locs_3 0 0 Q (F0 m 38 ls [.int w0_3]) := by
      intro w0_3 H_3 locs_3 hh_3 hb_w0_3 hi_3 ls hl
      have hb_w0_3' := jb_01 hb_w0_3
      refine lv_istore (lv' := [(5, .int w0_3), (0, .ref r0), (1, .int a1), (2, .int a2), (3, .int a3), (4, .int w0_2)]) hx hb dX5_tells_38 hl (by decide) rfl (fun ls hl => ?_)
      refine lv_iload_n hx hb dX5_tells_40 rfl (lv_at hl 3 rfl) ?_
      refine lv_istore (lv' := [(6, .int a2), (5, .int w0_3), (0, .ref r0), (1, .int a1), (2, .int a2), (3, .int a3), (4, .int w0_2)]) hx hb dX5_tells_41 hl (by decide) rfl (fun ls hl => ?_)
      have L43 : ∀ (N : Nat) (v5_4 : Int32) (v6_4 : Int32) (H_4 : Heap) (locs_4 : List Loc), jSt (dC, dI) B base G0 G0 EX5_tells s.heap 0 0 [(r0, 7, 5, .ref so), (r0, 7, 6, .ref xf), (r0, 7, 7, .ref xt)] [(xf, 290, 13, ca 1, fx), (xt, 291, 13, ca 1, ft)] [] H_4 locs_4 → (v5_4 = 0 ∨ v5_4 = 1) → (a2.toInt ≤ v6_4.toInt ∧ (v5_4.toInt = 0 ∨ w0_2.toInt = 1 ∨ jSo ft a1.toInt = a3.toInt - a2.toInt)) → (((a3.toInt - v6_4.toInt).toNat : Int) : Int) < N → ∀ ls : Array Slot, lv_has ls 7 [(0, .ref r0), (1, .int a1), (2, .int a2), (3, .int a3), (4, .int w0_2), (5, .int v5_4), (6, .int v6_4)] → W p l e R s m ([.ref r0, .int a1, .int a2, .int a3] : List Value).toArray below meth c H_4 locs_4 0 0 Q (F0 m 43 ls []) := by
        intro N
        induction N with
        | zero => intro v5_4 v6_4 H_4 locs_4 hh_4 hb_v5_4 hi_4 hm; exact absurd hm (by omega)
        | succ N L43 =>
          intro v5_4 v6_4 H_4 locs_4 hh_4 hb_v5_4 hi_4 hm_4 ls hl
          obtain ⟨hi_4_0, hi_4_1⟩ := hi_4
          have hb_v5_4' := jb_01 hb_v5_4
          refine lv_iload hx hb dX5_tells_43 (lv_at hl 6 rfl) ?_
          refine lv_iload_n hx hb dX5_tells_45 rfl (lv_at hl 3 rfl) ?_
          refine lv_icmp_ge (tgt := 121) hx hb dX5_tells_46 (by decide) (fun c_5 => ?_) (fun c_5 => ?_)
          · skip
            have c_5' : v6_4.toInt ≥ a3.toInt := jb_ge (rfl) (rfl) c_5
            refine lv_iload hx hb dX5_tells_121 (lv_at hl 5 rfl) ?_
            refine lv_if_eq (tgt := 147) hx hb dX5_tells_123 (by decide) (fun c_6 => ?_) (fun c_6 => ?_)
            · skip
              have c_6' : v5_4.toInt = 0 := jb_eq (rfl) ((by decide)) c_6
              refine lv_iload hx hb dX5_tells_147 (lv_at hl 5 rfl) ?_
              rw [hQ]
              exact W.zret (v := v5_4) hx hb hr (jb_nz (hb_v5_4)) (fun t ht hW => ⟨⟨v5_4, (fx, ft), rfl, ⟨(hb_v5_4), hp0⟩, ⟨hh_4.rt (M1 := []) [] rfl ht, by rw [ht]; exact hh_4.2.2.2.2.2.2.2.1.sub [0, 1] rfl⟩⟩, by rw [ht]; try exact hh_4.1.1, fun q h9 hq => by rw [ht]; try exact hh_4.1.2.1 q h9 hq⟩) hh_4.1.2.2 dX5_tells_149
            · skip
              have c_6' : v5_4.toInt ≠ 0 := jb_eq_n (rfl) ((by decide)) c_6
              refine lv_iload hx hb dX5_tells_126 (lv_at hl 4 rfl) ?_
              refine lv_if_eq (tgt := 147) hx hb dX5_tells_128 (by decide) (fun c_7 => ?_) (fun c_7 => ?_)
              · skip
                have c_7' : w0_2.toInt = 0 := jb_eq (rfl) ((by decide)) c_7
                refine lv_iload hx hb dX5_tells_147 (lv_at hl 5 rfl) ?_
                rw [hQ]
                exact W.zret (v := v5_4) hx hb hr (jb_nz (hb_v5_4)) (fun t ht hW => ⟨⟨v5_4, (fx, ft), rfl, ⟨(hb_v5_4), hp0⟩, ⟨hh_4.rt (M1 := []) [] rfl ht, by rw [ht]; exact hh_4.2.2.2.2.2.2.2.1.sub [0, 1] rfl⟩⟩, by rw [ht]; try exact hh_4.1.1, fun q h9 hq => by rw [ht]; try exact hh_4.1.2.1 q h9 hq⟩) hh_4.1.2.2 dX5_tells_149
              · skip
                have c_7' : w0_2.toInt ≠ 0 := jb_eq_n (rfl) ((by decide)) c_7
                refine lv_aload_n hx hb dX5_tells_131 rfl (lv_at hl 0 rfl) ?_
                refine j7_read hx hb hown hK (C := RX5) (T := TX5) (N := 11) rfl hly_7_6 hlk_44 (hh_4.at 1 rfl) dX5_tells_132 ?_
                refine lv_iload_n hx hb dX5_tells_135 rfl (lv_at hl 1 rfl) ?_
                refine lv_iload_n hx hb dX5_tells_136 rfl (lv_at hl 2 rfl) ?_
                refine j7_iastU hx hb hK hh_4 hB hB290 1 rfl (by decide) (by decide) rfl 0 rfl (M1 := [(xt, 291, 13, ca 1, ft)]) [1] rfl rfl rfl hg_xf (x := a1.toInt) (rfl) (by omega) (by first | omega | (refine ⟨?_, ?_⟩ <;> (first | omega | rfl | assumption | decide | exact Or.inl rfl | exact Or.inr rfl | (simp only; omega)))) dX5_tells_137 (fun H_8 locs_8 fs_9 hv_8 ho_8 hh_8 => ?_)
                have hv_8 : jSo fs_9 (a1.toInt) = a2.toInt := by unfold jSo; rw [hv_8]; try exact rfl
                clear hh_4
                refine lv_aload_n hx hb dX5_tells_138 rfl (lv_at hl 0 rfl) ?_
                refine j7_read hx hb hown hK (C := RX5) (T := TX5) (N := 11) rfl hly_7_7 hlk_47 (hh_8.at 2 rfl) dX5_tells_139 ?_
                refine lv_iload_n hx hb dX5_tells_142 rfl (lv_at hl 1 rfl) ?_
                refine lv_iload_n hx hb dX5_tells_143 rfl (lv_at hl 3 rfl) ?_
                refine lv_iload_n hx hb dX5_tells_144 rfl (lv_at hl 2 rfl) ?_
                refine lv_isub hx hb dX5_tells_145 ?_
                refine lv_topi (fun z_10 ez_10 => ?_)
                have hz_10 : z_10.toInt = a3.toInt - a2.toInt := by rw [ez_10]; exact jb_isub2 (rfl) (rfl) (by omega)
                refine j7_iastU hx hb hK hh_8 hB hB291 1 rfl (by decide) (by decide) rfl 1 rfl (M1 := [(xf, 290, 13, ca 1, fs_9)]) [0] rfl rfl rfl hg_xt (x := a1.toInt) (rfl) (by omega) (by first | omega | (refine ⟨?_, ?_⟩ <;> (first | omega | rfl | assumption | decide | exact Or.inl rfl | exact Or.inr rfl | (simp only; omega)))) dX5_tells_146 (fun H_11 locs_11 fs_12 hv_11 ho_11 hh_11 => ?_)
                have hv_11 : jSo fs_12 (a1.toInt) = z_10.toInt := by unfold jSo; rw [hv_11]; try exact rfl
                clear hh_8
                refine lv_iload hx hb dX5_tells_147 (lv_at hl 5 rfl) ?_
                rw [hQ]
                exact W.zret (v := v5_4) hx hb hr (jb_nz (hb_v5_4)) (fun t ht hW => ⟨⟨v5_4, (fs_9, fs_12), rfl, ⟨(hb_v5_4), jTt.put hp0 (by omega) (by omega) hv_8 ho_8 hv_11 ho_11 (by omega)⟩, ⟨hh_11.rt (M1 := []) [] rfl ht, by rw [ht]; exact hh_11.2.2.2.2.2.2.2.1.sub [1, 0] rfl⟩⟩, by rw [ht]; try exact hh_11.1.1, fun q h9 hq => by rw [ht]; try exact hh_11.1.2.1 q h9 hq⟩) hh_11.1.2.2 dX5_tells_149
          · skip
            have c_5' : v6_4.toInt < a3.toInt := jb_ge_n (rfl) (rfl) c_5
            refine lv_iload hx hb dX5_tells_49 (lv_at hl 5 rfl) ?_
            refine lv_if_eq (tgt := 121) hx hb dX5_tells_51 (by decide) (fun c_13 => ?_) (fun c_13 => ?_)
            · skip
              have c_13' : v5_4.toInt = 0 := jb_eq (rfl) ((by decide)) c_13
              refine lv_iload hx hb dX5_tells_121 (lv_at hl 5 rfl) ?_
              refine lv_if_eq (tgt := 147) hx hb dX5_tells_123 (by decide) (fun c_14 => ?_) (fun c_14 => ?_)
              · skip
                have c_14' : v5_4.toInt = 0 := jb_eq (rfl) ((by decide)) c_14
                refine lv_iload hx hb dX5_tells_147 (lv_at hl 5 rfl) ?_
                rw [hQ]
                exact W.zret (v := v5_4) hx hb hr (jb_nz (hb_v5_4)) (fun t ht hW => ⟨⟨v5_4, (fx, ft), rfl, ⟨(hb_v5_4), hp0⟩, ⟨hh_4.rt (M1 := []) [] rfl ht, by rw [ht]; exact hh_4.2.2.2.2.2.2.2.1.sub [0, 1] rfl⟩⟩, by rw [ht]; try exact hh_4.1.1, fun q h9 hq => by rw [ht]; try exact hh_4.1.2.1 q h9 hq⟩) hh_4.1.2.2 dX5_tells_149
              · skip
                have c_14' : v5_4.toInt ≠ 0 := jb_eq_n (rfl) ((by decide)) c_14
                exact (by omega : False).elim
            · skip
              have c_13' : v5_4.toInt ≠ 0 := jb_eq_n (rfl) ((by decide)) c_13
              refine lv_iload hx hb dX5_tells_54 (lv_at hl 4 rfl) ?_
              refine lv_if_eq (tgt := 82) hx hb dX5_tells_56 (by decide) (fun c_15 => ?_) (fun c_15 => ?_)
              · skip
                have c_15' : w0_2.toInt = 0 := jb_eq (rfl) ((by decide)) c_15
                have htt := hp0 a1.toInt (by omega) (by omega)
                refine lv_aload_n hx hb dX5_tells_82 rfl (lv_at hl 0 rfl) ?_
                refine j7_read hx hb hown hK (C := RX5) (T := TX5) (N := 11) rfl hly_7_5 hlk_41 (hh_4.at 0 rfl) dX5_tells_83 ?_
                refine lv_iload hx hb dX5_tells_86 (lv_at hl 6 rfl) ?_
                refine j7_iald hx hb hK hh_4 hB280 1 rfl (by decide) hg_so (x := v6_4.toInt) (rfl) (by omega) dX5_tells_88 (fun z_16 (hz_16 : -1 ≤ z_16.toInt) => ?_)
                refine lv_aload_n hx hb dX5_tells_89 rfl (lv_at hl 0 rfl) ?_
                refine j7_read hx hb hown hK (C := RX5) (T := TX5) (N := 11) rfl hly_7_5 hlk_41 (hh_4.at 0 rfl) dX5_tells_90 ?_
                refine lv_aload_n hx hb dX5_tells_93 rfl (lv_at hl 0 rfl) ?_
                refine j7_read hx hb hown hK (C := RX5) (T := TX5) (N := 11) rfl hly_7_6 hlk_44 (hh_4.at 1 rfl) dX5_tells_94 ?_
                refine lv_iload_n hx hb dX5_tells_97 rfl (lv_at hl 1 rfl) ?_
                refine j7_ialdM hx hb hK hh_4 hB290 1 rfl (by decide) hg_xf (x := a1.toInt) (rfl) (by omega) (j := 0) rfl dX5_tells_98 (fun z_17 ez_17 (hz_17 : 0 ≤ z_17.toInt ∧ z_17.toInt ≤ 3000) => ?_)
                have hqz_17 : z_17.toInt = jSo fx (a1.toInt) := by unfold jSo; rw [ez_17]
                refine lv_iload hx hb dX5_tells_99 (lv_at hl 6 rfl) ?_
                refine lv_iadd hx hb dX5_tells_101 ?_
                refine lv_topi (fun z_18 ez_18 => ?_)
                have hz_18 : z_18.toInt = z_17.toInt + v6_4.toInt := by rw [ez_18]; exact jb_iadd2 (rfl) (rfl) (by omega)
                refine lv_iload_n hx hb dX5_tells_102 rfl (lv_at hl 2 rfl) ?_
                refine lv_isub hx hb dX5_tells_103 ?_
                refine lv_topi (fun z_19 ez_19 => ?_)
                have hz_19 : z_19.toInt = z_18.toInt - a2.toInt := by rw [ez_19]; exact jb_isub2 (rfl) (rfl) (by omega)
                refine j7_iald hx hb hK hh_4 hB280 1 rfl (by decide) hg_so (x := z_19.toInt) (rfl) (by omega) dX5_tells_104 (fun z_20 (hz_20 : -1 ≤ z_20.toInt) => ?_)
                refine lv_icmp_ne (tgt := 112) hx hb dX5_tells_105 (by decide) (fun c_21 => ?_) (fun c_21 => ?_)
                · skip
                  have c_21' : z_16.toInt ≠ z_20.toInt := jb_ne (rfl) (rfl) c_21
                  refine lv_iconst (v := 0) hx hb dX5_tells_112 (by decide) ?_
                  refine lv_istore (lv' := [(5, .int 0), (0, .ref r0), (1, .int a1), (2, .int a2), (3, .int a3), (4, .int w0_2), (6, .int v6_4)]) hx hb dX5_tells_113 hl (by decide) rfl (fun ls hl => ?_)
                  obtain ⟨z_22, ez_22⟩ : ∃ y : Int32, y = v6_4 + 1 := ⟨_, rfl⟩
                  refine lv_iinc (v := z_22) (lv' := [(6, .int z_22), (5, .int 0), (0, .ref r0), (1, .int a1), (2, .int a2), (3, .int a3), (4, .int w0_2)]) hx hb dX5_tells_115 hl (k := 6) rfl (by rw [ez_22]; rfl) (by decide) rfl (fun ls hl => ?_)
                  have hz_22 : z_22.toInt = v6_4.toInt + 1 := by rw [ez_22]; exact jb_iadd2 (rfl) (by decide) (by omega)
                  refine lv_goto (tgt := 43) hx hb dX5_tells_118 (by decide) ?_
                  exact L43 0 z_22 _ _ hh_4 (Or.inl rfl) (by first | omega | (refine ⟨?_, ?_⟩ <;> (first | omega | rfl | assumption | decide | exact Or.inl rfl | exact Or.inr rfl | (simp only; omega)))) (by omega) _ (lv_sub hl [2, 3, 4, 5, 6, 1, 0] rfl)
                · skip
                  have c_21' : z_16.toInt = z_20.toInt := jb_ne_n (rfl) (rfl) c_21
                  refine lv_iconst (v := 1) hx hb dX5_tells_108 (by decide) ?_
                  refine lv_goto (tgt := 113) hx hb dX5_tells_109 (by decide) ?_
                  refine lv_istore (lv' := [(5, .int 1), (0, .ref r0), (1, .int a1), (2, .int a2), (3, .int a3), (4, .int w0_2), (6, .int v6_4)]) hx hb dX5_tells_113 hl (by decide) rfl (fun ls hl => ?_)
                  obtain ⟨z_23, ez_23⟩ : ∃ y : Int32, y = v6_4 + 1 := ⟨_, rfl⟩
                  refine lv_iinc (v := z_23) (lv' := [(6, .int z_23), (5, .int 1), (0, .ref r0), (1, .int a1), (2, .int a2), (3, .int a3), (4, .int w0_2)]) hx hb dX5_tells_115 hl (k := 6) rfl (by rw [ez_23]; rfl) (by decide) rfl (fun ls hl => ?_)
                  have hz_23 : z_23.toInt = v6_4.toInt + 1 := by rw [ez_23]; exact jb_iadd2 (rfl) (by decide) (by omega)
                  refine lv_goto (tgt := 43) hx hb dX5_tells_118 (by decide) ?_
                  exact L43 1 z_23 _ _ hh_4 (Or.inr rfl) (by first | omega | (refine ⟨?_, ?_⟩ <;> (first | omega | rfl | assumption | decide | exact Or.inl rfl | exact Or.inr rfl | (simp only; omega)))) (by omega) _ (lv_sub hl [2, 3, 4, 5, 6, 1, 0] rfl)
              · skip
                have c_15' : w0_2.toInt ≠ 0 := jb_eq_n (rfl) ((by decide)) c_15
                refine lv_aload_n hx hb dX5_tells_59 rfl (lv_at hl 0 rfl) ?_
                refine j7_read hx hb hown hK (C := RX5) (T := TX5) (N := 11) rfl hly_7_5 hlk_41 (hh_4.at 0 rfl) dX5_tells_60 ?_
                refine lv_iload hx hb dX5_tells_63 (lv_at hl 6 rfl) ?_
                refine j7_iald hx hb hK hh_4 hB280 1 rfl (by decide) hg_so (x := v6_4.toInt) (rfl) (by omega) dX5_tells_65 (fun z_24 (hz_24 : -1 ≤ z_24.toInt) => ?_)
                refine lv_bipush (v := 15) hx hb dX5_tells_66 (by decide) ?_
                refine lv_iand hx hb dX5_tells_68 ?_
                refine lv_topi (fun z_25 ez_25 => ?_)
                have hz_25 : 0 ≤ z_25.toInt ∧ z_25.toInt ≤ 15 := by rw [ez_25]; exact jb_and z_24 (m := 15) (k := 4) (by decide) (by decide)
                have hbz_25 : z_25.toInt = z_24.toInt % 16 := by rw [ez_25, jb_and15]
                refine lv_bipush (v := 10) hx hb dX5_tells_69 (by decide) ?_
                refine lv_icmp_eq (tgt := 78) hx hb dX5_tells_71 (by decide) (fun c_26 => ?_) (fun c_26 => ?_)
                · skip
                  have c_26' : z_25.toInt = 10 := jb_eq (rfl) ((by decide)) c_26
                  refine lv_iconst (v := 0) hx hb dX5_tells_78 (by decide) ?_
                  refine lv_goto (tgt := 113) hx hb dX5_tells_79 (by decide) ?_
                  refine lv_istore (lv' := [(5, .int 0), (0, .ref r0), (1, .int a1), (2, .int a2), (3, .int a3), (4, .int w0_2), (6, .int v6_4)]) hx hb dX5_tells_113 hl (by decide) rfl (fun ls hl => ?_)
                  obtain ⟨z_27, ez_27⟩ : ∃ y : Int32, y = v6_4 + 1 := ⟨_, rfl⟩
                  refine lv_iinc (v := z_27) (lv' := [(6, .int z_27), (5, .int 0), (0, .ref r0), (1, .int a1), (2, .int a2), (3, .int a3), (4, .int w0_2)]) hx hb dX5_tells_115 hl (k := 6) rfl (by rw [ez_27]; rfl) (by decide) rfl (fun ls hl => ?_)
                  have hz_27 : z_27.toInt = v6_4.toInt + 1 := by rw [ez_27]; exact jb_iadd2 (rfl) (by decide) (by omega)
                  refine lv_goto (tgt := 43) hx hb dX5_tells_118 (by decide) ?_
                  exact L43 0 z_27 _ _ hh_4 (Or.inl rfl) (by first | omega | (refine ⟨?_, ?_⟩ <;> (first | omega | rfl | assumption | decide | exact Or.inl rfl | exact Or.inr rfl | (simp only; omega)))) (by omega) _ (lv_sub hl [2, 3, 4, 5, 6, 1, 0] rfl)
                · skip
                  have c_26' : z_25.toInt ≠ 10 := jb_eq_n (rfl) ((by decide)) c_26
                  refine lv_iconst (v := 1) hx hb dX5_tells_74 (by decide) ?_
                  refine lv_goto (tgt := 113) hx hb dX5_tells_75 (by decide) ?_
                  refine lv_istore (lv' := [(5, .int 1), (0, .ref r0), (1, .int a1), (2, .int a2), (3, .int a3), (4, .int w0_2), (6, .int v6_4)]) hx hb dX5_tells_113 hl (by decide) rfl (fun ls hl => ?_)
                  obtain ⟨z_28, ez_28⟩ : ∃ y : Int32, y = v6_4 + 1 := ⟨_, rfl⟩
                  refine lv_iinc (v := z_28) (lv' := [(6, .int z_28), (5, .int 1), (0, .ref r0), (1, .int a1), (2, .int a2), (3, .int a3), (4, .int w0_2)]) hx hb dX5_tells_115 hl (k := 6) rfl (by rw [ez_28]; rfl) (by decide) rfl (fun ls hl => ?_)
                  have hz_28 : z_28.toInt = v6_4.toInt + 1 := by rw [ez_28]; exact jb_iadd2 (rfl) (by decide) (by omega)
                  refine lv_goto (tgt := 43) hx hb dX5_tells_118 (by decide) ?_
                  exact L43 1 z_28 _ _ hh_4 (Or.inr rfl) (by first | omega | (refine ⟨?_, ?_⟩ <;> (first | omega | rfl | assumption | decide | exact Or.inl rfl | exact Or.inr rfl | (simp only; omega)))) (by omega) _ (lv_sub hl [2, 3, 4, 5, 6, 1, 0] rfl)
      exact L43 (((a3.toInt - (a2 : Int32).toInt).toNat : Int) : Int).toNat.succ w0_3 a2 _ _ hh_3 (hb_w0_3) (by first | omega | (refine ⟨?_, ?_⟩ <;> (first | omega | rfl | assumption | decide | exact Or.inl rfl | exact Or.inr rfl | (simp only; omega)))) (by omega) _ (lv_sub hl [2, 3, 4, 5, 6, 1, 0] rfl)
    refine lv_if_ne (tgt := 33) hx hb dX5_tells_18 (by decide) (fun c_29 => ?_) (fun c_29 => ?_)
    · skip
      have c_29' : w0_2.toInt ≠ 0 := jb_ne (rfl) ((by decide)) c_29
      refine lv_iconst (v := 1) hx hb dX5_tells_33 (by decide) ?_
      refine lv_goto (tgt := 38) hx hb dX5_tells_34 (by decide) ?_
      exact C38 1 _ _ hh_2 (Or.inr rfl) (by first | omega | rfl | assumption | decide | exact Or.inl rfl | exact Or.inr rfl | (simp only; omega)) _ (lv_sub hl [1, 2, 3, 4, 0] rfl)
    · skip
      have c_29' : w0_2.toInt = 0 := jb_ne_n (rfl) ((by decide)) c_29
      refine lv_aload_n hx hb dX5_tells_21 rfl (lv_at hl 1 rfl) ?_
      refine j7_read hx hb hown hK (C := RX5) (T := TX5) (N := 11) rfl hly_7_7 hlk_47 (hh_2.at 2 rfl) dX5_tells_22 ?_
      refine lv_iload_n hx hb dX5_tells_25 rfl (lv_at hl 2 rfl) ?_
      refine j7_ialdM hx hb hK hh_2 hB291 1 rfl (by decide) hg_xt (x := a1.toInt) (rfl) (by omega) (j := 1) rfl dX5_tells_26 (fun z_30 ez_30 (hz_30 : 0 ≤ z_30.toInt ∧ z_30.toInt ≤ 3000) => ?_)
      have hqz_30 : z_30.toInt = jSo ft (a1.toInt) := by unfold jSo; rw [ez_30]
      refine lv_iload_n hx hb dX5_tells_27 rfl (lv_at hl 4 rfl) ?_
      refine lv_iload_n hx hb dX5_tells_28 rfl (lv_at hl 3 rfl) ?_
      refine lv_isub hx hb dX5_tells_29 ?_
      refine lv_topi (fun z_31 ez_31 => ?_)
      have hz_31 : z_31.toInt = a3.toInt - a2.toInt := by rw [ez_31]; exact jb_isub2 (rfl) (rfl) (by omega)
      refine lv_icmp_ne (tgt := 37) hx hb dX5_tells_30 (by decide) (fun c_32 => ?_) (fun c_32 => ?_)
      · skip
        have c_32' : z_30.toInt ≠ z_31.toInt := jb_ne (rfl) (rfl) c_32
        refine lv_iconst (v := 0) hx hb dX5_tells_37 (by decide) ?_
        exact C38 0 _ _ hh_2 (Or.inl rfl) (by first | omega | rfl | assumption | decide | exact Or.inl rfl | exact Or.inr rfl | (simp only; omega)) _ (lv_sub hl [1, 2, 3, 4, 0] rfl)
      · skip
        have c_32' : z_30.toInt = z_31.toInt := jb_ne_n (rfl) (rfl) c_32
        refine lv_iconst (v := 1) hx hb dX5_tells_33 (by decide) ?_
        refine lv_goto (tgt := 38) hx hb dX5_tells_34 (by decide) ?_
        exact C38 1 _ _ hh_2 (Or.inr rfl) (by first | omega | rfl | assumption | decide | exact Or.inl rfl | exact Or.inr rfl | (simp only; omega)) _ (lv_sub hl [1, 2, 3, 4, 0] rfl)
  refine lv_if_ne (tgt := 13) hx hb dX5_tells_6 (by decide) (fun c_33 => ?_) (fun c_33 => ?_)
  · skip
    have c_33' : z_1.toInt ≠ 0 := jb_ne (rfl) ((by decide)) c_33
    refine lv_iconst (v := 0) hx hb dX5_tells_13 (by decide) ?_
    exact C14 0 _ _ hh (Or.inl rfl) (by first | omega | rfl | assumption | decide | exact Or.inl rfl | exact Or.inr rfl | (simp only; omega)) _ (lv_sub hl [0, 1, 2, 3] rfl)
  · skip
    have c_33' : z_1.toInt = 0 := jb_ne_n (rfl) ((by decide)) c_33
    refine lv_iconst (v := 1) hx hb dX5_tells_9 (by decide) ?_
    refine lv_goto (tgt := 14) hx hb dX5_tells_10 (by decide) ?_
    exact C14 1 _ _ hh (Or.inr rfl) (by first | omega | rfl | assumption | decide | exact Or.inl rfl | exact Or.inr rfl | (simp only; omega)) _ (lv_sub hl [0, 1, 2, 3] rfl)
set_option maxHeartbeats 4000000 in
set_option maxRecDepth 20000 in
theorem uX5_matches (l : Launch) (dC : Nat → ClassId) (dI : Nat → Nat → Nat) (ca : Nat → ClassId) (base : Nat) (B : jF) (hB : jBok B) (hAp : jAp (dC, dI)) (hB7 : ∀ n G a H, B 7 n G a H ↔ jOb (dC, dI) 7 11 (F7 n G) a H) (hB101 : ∀ n G a H, B 101 n G a H ↔ jAr (dC, dI) (ca 1) (fun j z => True) n a H) (hB280 : ∀ n G a H, B 280 n G a H ↔ jAr (dC, dI) (ca 1) (fun j z => -1 ≤ z.toInt) n a H) (hB290 : ∀ n G a H, B 290 n G a H ↔ jAr (dC, dI) (ca 1) (fun j z => 0 ≤ z.toInt ∧ z.toInt ≤ 3000) n a H) (hB291 : ∀ n G a H, B 291 n G a H ↔ jAr (dC, dI) (ca 1) (fun j z => 0 ≤ z.toInt ∧ z.toInt ≤ 3000) n a H) (G0 : jT) (H0 : Heap) (r0 : Nat) (r1 : Nat) (a2 : Int32) (a3 : Int32) (r4 : Nat) (n1 : Nat) (n4 : Nat) (xf : Nat) (xt : Nat) (fx : Nat → Int32) (ft : Nat → Int32) : Met l yX5_matches (jw yX5_matches cX5_matches 10 (some .boolean)) ({ frames := 1, cells := 0, slots := 0, locals := 26 }) (va_Pc [.ref r0, .ref r1, .int a2, .int a3, .ref r4] (fun U => U.heap = H0 ∧ jX B base G0 [] H0 ∧ jG dC dI ca base U ∧ G0 r1 = some (280, n1) ∧ G0 r4 = some (280, n4) ∧ G0 r0 = some (7, 0) ∧ G0 xf = some (290, 13) ∧ G0 xt = some (291, 13) ∧ jP (dC, dI) G0 H0 [(r0, 7, 6, .ref xf), (r0, 7, 7, .ref xt)] ∧ jMc (dC, dI) G0 H0 [(xf, 290, 13, ca 1, fx), (xt, 291, 13, ca 1, ft)] ∧ n1 ≤ 80 ∧ n4 ≤ 80 ∧ 0 ≤ a2.toInt ∧ 0 ≤ a3.toInt ∧ a3.toInt ≤ 12)) (va_Qi (S := (Nat → Int32) × (Nat → Int32) × Nat × Nat) (fun r u => (r = 0 ∨ r = 1) ∧ (jTt u.1 u.2.1 u.2.2.2 ∧ u.2.2.2 ≤ 80 ∧ (r.toInt = 1 → jTa u.2.1 a3.toInt))) (fun u t => (jRt (dC, dI) B base G0 EX5_matches H0 [(r0, 7, 5, .ref u.2.2.1)] t.heap ∧ jMc (dC, dI) G0 t.heap [(xf, 290, 13, ca 1, u.1), (xt, 291, 13, ca 1, u.2.1)]) ∧ G0 u.2.2.1 = some (280, u.2.2.2)) (jA base)) 0 0 (jA base) := by
  refine Met.ofW (cc := cX5_matches) (maxL := 10) (ret := (some .boolean)) (by decide) rfl ?_
  intro p e s m args below meth c s₁ Bd hml hv
  obtain ⟨rfl, hH0, hX, hG, hg_r1, hg_r4, hg_r0, hg_xf, hg_xt, hP0, hM0, hp0, hp1, hp2, hp3, hp4⟩ := hv
  have hK := hG.1
  have hx := Bd.exec
  have hb := Bd.bytes
  have hr := Bd.returns
  have hts := atoms_spec (ws := (jw yX5_matches cX5_matches 10 (some .boolean))) Bd.pre
  have htw : ∀ w ∈ jWl, w.before _ s = true := fun w h => hts w (List.mem_cons_of_mem _ h)
  have hown : s.vm.findClass RX5 = some m.cls := findClass_of_methodNamed Bd.named
  have hlocks := Bd.notSynchronized
  obtain ⟨Q, hQ⟩ : ∃ Q, Q = MQ below (va_Qi (S := (Nat → Int32) × (Nat → Int32) × Nat × Nat) (fun r u => (r = 0 ∨ r = 1) ∧ (jTt u.1 u.2.1 u.2.2.2 ∧ u.2.2.2 ≤ 80 ∧ (r.toInt = 1 → jTa u.2.1 a3.toInt))) (fun u t => (jRt (dC, dI) B base G0 EX5_matches H0 [(r0, 7, 5, .ref u.2.2.1)] t.heap ∧ jMc (dC, dI) G0 t.heap [(xf, 290, 13, ca 1, u.1), (xt, 291, 13, ca 1, u.2.1)]) ∧ G0 u.2.2.1 = some (280, u.2.2.2)) (jA base)) ([.ref r0, .ref r1, .int a2, .int a3, .ref r4] : List Value).toArray s 0 0 (jA base) := ⟨_, rfl⟩
  rw [← hQ]
  have hl := lv_entry ([.ref r0, .ref r1, .int a2, .int a3, .ref r4]) (n := 10) (Nat.le_of_ble_eq_true rfl)
  rw [lg_entry_eq]
  generalize (lg_sl ([.ref r0, .ref r1, .int a2, .int a3, .ref r4]) ++ List.replicate (10 - (lg_sl ([.ref r0, .ref r1, .int a2, .int a3, .ref r4])).length) Slot.unset).toArray = ls at hl ⊢
  have hl : lv_has ls 10 [(0, .ref r0), (1, .ref r1), (2, .int a2), (3, .int a3), (4, .ref r4)] := hl
  generalize hR : (headSpec (jw yX5_matches cX5_matches 10 (some .boolean)) ({ frames := 1, cells := 0, slots := 0, locals := 26 })).room = R
  subst hH0
  have hh : jSt (dC, dI) B base G0 G0 EX5_matches s.heap 0 0 [(r0, 7, 6, .ref xf), (r0, 7, 7, .ref xt)] [(xf, 290, 13, ca 1, fx), (xt, 291, 13, ca 1, ft)] [] s.heap [] := jSt.start hX hP0 hM0 jIs.nil
  clear hX hP0
  have hk0 : (0 : Int32).toInt = 0 := by decide
  have hk1 : (1 : Int32).toInt = 1 := by decide
  have hk10 : (10 : Int32).toInt = 10 := by decide
  have hk15 : (15 : Int32).toInt = 15 := by decide
  have hly_7_5 := htw (u_lay RX5 TX5 5) (jWc_wsX50 _ (u_in_lay (by decide)))
  have hly_7_7 := htw (u_lay RX5 TX5 7) (jWc_wsX50 _ (u_in_lay (by decide)))
  have hlk_47 := (htw (.fieldLink RX5 47 "ProofServer$Kernel" "termSize" "[I") (jWr_5 _ (List.mem_of_getElem? (i := 0) rfl)))
  have hlk_41 := (htw (.fieldLink RX5 41 "ProofServer$Kernel" "source" "[I") (jWr_4 _ (List.mem_of_getElem? (i := 22) rfl)))
  have hrg_a2 := jb_rng a2
  have hrg_a3 := jb_rng a3
  refine lv_aload_n hx hb dX5_matches_0 rfl (lv_at hl 0 rfl) ?_
  refine j7_read hx hb hown hK (C := RX5) (T := TX5) (N := 11) rfl hly_7_7 hlk_47 (hh.at 1 rfl) dX5_matches_1 ?_
  refine lv_iconst (v := 0) hx hb dX5_matches_4 (by decide) ?_
  refine va_callv (A0 := jA base) (H0 := s.heap) (va_runS (As := [.ref xt, .int 0]) (rest := []) ⟨hx, hb, hml, hown, hts⟩ (uJ7_fill_53178P l dC dI ca base B hB hAp hB291 G0 s.heap xt 0 13 ft) (va_cwS 2 hts (jgS (jWr_86 _ (List.mem_of_getElem? (i := 23) rfl)) (jWr_87 _ (List.mem_of_getElem? (i := 0) rfl)) (jWr_16 _ (List.mem_of_getElem? (i := 7) rfl)) (jWr_87 _ (List.mem_of_getElem? (i := 1) rfl))) rfl rfl rfl (by decide +kernel) ⟨by rw [← hR]; exact Nat.le_of_ble_eq_true rfl, by rw [← hR]; exact Nat.le_of_ble_eq_true rfl⟩) ⟨fun a U g mk q => by obtain ⟨q0, q1, q2, qK, q10, q11, q12, q13⟩ := q; exact ⟨q0, q1, q2, jG.calling g mk a qK, q10, q11, q12, q13⟩, fun U hU hW => ⟨rfl, hU, hh.2.1, hG.step hW hU hh.1, hg_xt, jP.nil, (hh.2.2.2.2.2.2.2.1.sub (L1 := [(xt, 291, 13, ca 1, ft)]) [1] rfl), by first | omega | (refine ⟨?_, ?_⟩ <;> (first | omega | rfl | assumption | decide | exact Or.inl rfl | exact Or.inr rfl | (simp only; omega)))⟩⟩ rfl rfl hl.1 rfl (lv_room (Nat.le_of_ble_eq_true rfl)) dX5_matches_5 ⟨Nat.zero_le _, Nat.zero_le _⟩) hh.1 (fun q _ h => h) (fun q h => h) (fun u_1 t_1 H_1 locs_1 ht_1 hvm_1 hr_2 hb_1 hz_1 hk_1 hS_1 => ?_)
  obtain ⟨fz_1, rfl⟩ : ∃ z, z = u_1 := ⟨_, rfl⟩
  rw [ht_1] at hb_1
  obtain ⟨⟨hb_11, hb_12, hb_13, hb_14, hb_15⟩, hb_16⟩ := hb_1
  have hh_1 : jSt (dC, dI) B base G0 G0 EX5_matches s.heap 0 0 [(r0, 7, 6, .ref xf), (r0, 7, 7, .ref xt)] [(xt, 291, 13, ca 1, fz_1), (xf, 290, 13, ca 1, fx)] [] H_1 locs_1 := ((hh.call hb_11 hb_12 hb_13 hb_14 hS_1 rfl (L1 := [(r0, 7, 6, .ref xf), (r0, 7, 7, .ref xt)]) [0, 1] rfl rfl (M1 := [(xf, 290, 13, ca 1, fx)]) [0] rfl rfl (I1 := []) [] rfl rfl).more hb_15).moreM hb_16
  clear hh ht_1 hvm_1 hz_1 hk_1 hS_1 hb_11 hb_12 hb_13 hb_14 hb_15
  clear hb_16
  refine lv_aload_n hx hb dX5_matches_8 rfl (lv_at hl 0 rfl) ?_
  refine lv_aload hx hb dX5_matches_9 (lv_at hl 4 rfl) ?_
  refine j7_put hx hb hown hK hh_1 hB hAp hB7 (C := RX5) (T := TX5) (N := 11) rfl (by decide) hg_r0 (i := 5) (by decide) hly_7_5 rfl hlk_41 rfl (ty := (.array .int)) (v := .ref r4) (by decide +kernel) rfl rfl (⟨_, _, rfl, hg_r4, by omega⟩) rfl (L1 := [(r0, 7, 6, .ref xf), (r0, 7, 7, .ref xt)]) [0, 1] rfl rfl rfl dX5_matches_11 (fun H_3 locs_3 hh_3 => ?_)
  clear hh_1
  refine lv_iconst (v := 0) hx hb dX5_matches_14 (by decide) ?_
  refine lv_istore (lv' := [(5, .int 0), (0, .ref r0), (1, .ref r1), (2, .int a2), (3, .int a3), (4, .ref r4)]) hx hb dX5_matches_15 hl (by decide) rfl (fun ls hl => ?_)
  refine lv_iload_n hx hb dX5_matches_17 rfl (lv_at hl 3 rfl) ?_
  refine lv_istore (lv' := [(6, .int a2), (5, .int 0), (0, .ref r0), (1, .ref r1), (2, .int a2), (3, .int a3), (4, .ref r4)]) hx hb dX5_matches_18 hl (by decide) rfl (fun ls hl => ?_)
  have L20 : ∀ (N : Nat) (v5_4 : Int32) (v6_4 : Int32) (fx_4 : Nat → Int32) (ft_4 : Nat → Int32) (H_4 : Heap) (locs_4 : List Loc), jSt (dC, dI) B base G0 G0 EX5_matches s.heap 0 0 [(r0, 7, 5, .ref r4), (r0, 7, 6, .ref xf), (r0, 7, 7, .ref xt)] [(xt, 291, 13, ca 1, ft_4), (xf, 290, 13, ca 1, fx_4)] [] H_4 locs_4 → (0 ≤ v5_4.toInt ∧ v5_4.toInt ≤ n4 ∧ 0 ≤ v6_4.toInt ∧ jTt fx_4 ft_4 n4) → (((n1 - v6_4.toInt).toNat : Int) : Int) < N → ∀ ls : Array Slot, lv_has ls 10 [(0, .ref r0), (1, .ref r1), (2, .int a2), (3, .int a3), (4, .ref r4), (5, .int v5_4), (6, .int v6_4)] → W p l e R s m ([.ref r0, .ref r1, .int a2, .int a3, .ref r4] : List Value).toArray below meth c H_4 locs_4 0 0 Q (F0 m 20 ls []) := by
    intro N
    induction N with
    | zero => intro v5_4 v6_4 fx_4 ft_4 H_4 locs_4 hh_4  hi_4 hm; exact absurd hm (by omega)
    | succ N L20 =>
      intro v5_4 v6_4 fx_4 ft_4 H_4 locs_4 hh_4  hi_4 hm_4 ls hl
      obtain ⟨hi_4_0, hi_4_1, hi_4_2, hi_4_3⟩ := hi_4
      refine lv_iload hx hb dX5_matches_20 (lv_at hl 6 rfl) ?_
      refine lv_aload_n hx hb dX5_matches_22 rfl (lv_at hl 1 rfl) ?_
      refine j7_len hx hb hK hh_4 hB280 1 rfl (by decide) hg_r1 (by omega) dX5_matches_23 (fun z_5 hz_5 => ?_)
      refine lv_icmp_ge (tgt := 150) hx hb dX5_matches_24 (by decide) (fun c_6 => ?_) (fun c_6 => ?_)
      · skip
        have c_6' : v6_4.toInt ≥ z_5.toInt := jb_ge (rfl) (rfl) c_6
        refine lv_iconst (v := 1) hx hb dX5_matches_150 (by decide) ?_
        refine lv_istore (lv' := [(6, .int 1), (0, .ref r0), (1, .ref r1), (2, .int a2), (3, .int a3), (4, .ref r4), (5, .int v5_4)]) hx hb dX5_matches_151 hl (by decide) rfl (fun ls hl => ?_)
        refine lv_iconst (v := 0) hx hb dX5_matches_153 (by decide) ?_
        refine lv_istore (lv' := [(7, .int 0), (6, .int 1), (0, .ref r0), (1, .ref r1), (2, .int a2), (3, .int a3), (4, .ref r4), (5, .int v5_4)]) hx hb dX5_matches_154 hl (by decide) rfl (fun ls hl => ?_)
        have L156 : ∀ (N : Nat) (v6_7 : Int32) (v7_7 : Int32) (H_7 : Heap) (locs_7 : List Loc), jSt (dC, dI) B base G0 G0 EX5_matches s.heap 0 0 [(r0, 7, 5, .ref r4), (r0, 7, 6, .ref xf), (r0, 7, 7, .ref xt)] [(xt, 291, 13, ca 1, ft_4), (xf, 290, 13, ca 1, fx_4)] [] H_7 locs_7 → (0 ≤ v7_7.toInt ∧ v7_7.toInt ≤ a3.toInt ∧ (v6_7.toInt = 0 ∨ jTa ft_4 v7_7.toInt)) → (a3.toInt - v7_7.toInt : Int) < N → ∀ ls : Array Slot, lv_has ls 10 [(0, .ref r0), (1, .ref r1), (2, .int a2), (3, .int a3), (4, .ref r4), (5, .int v5_4), (6, .int v6_7), (7, .int v7_7)] → W p l e R s m ([.ref r0, .ref r1, .int a2, .int a3, .ref r4] : List Value).toArray below meth c H_7 locs_7 0 0 Q (F0 m 156 ls []) := by
          intro N
          induction N with
          | zero => intro v6_7 v7_7 H_7 locs_7 hh_7  hi_7 hm; exact absurd hm (by omega)
          | succ N L156 =>
            intro v6_7 v7_7 H_7 locs_7 hh_7  hi_7 hm_7 ls hl
            obtain ⟨hi_7_0, hi_7_1, hi_7_2⟩ := hi_7
            refine lv_iload hx hb dX5_matches_156 (lv_at hl 7 rfl) ?_
            refine lv_iload_n hx hb dX5_matches_158 rfl (lv_at hl 3 rfl) ?_
            refine lv_icmp_ge (tgt := 190) hx hb dX5_matches_159 (by decide) (fun c_8 => ?_) (fun c_8 => ?_)
            · skip
              have c_8' : v7_7.toInt ≥ a3.toInt := jb_ge (rfl) (rfl) c_8
              refine lv_iload hx hb dX5_matches_190 (lv_at hl 6 rfl) ?_
              refine lv_if_eq (tgt := 207) hx hb dX5_matches_192 (by decide) (fun c_9 => ?_) (fun c_9 => ?_)
              · skip
                have c_9' : v6_7.toInt = 0 := jb_eq (rfl) ((by decide)) c_9
                refine lv_iconst (v := 0) hx hb dX5_matches_207 (by decide) ?_
                rw [hQ]
                exact W.zret (v := 0) hx hb hr (jb_nz (Or.inl rfl)) (fun t ht hW => ⟨⟨0, (fx_4, ft_4, r4, n4), rfl, ⟨(Or.inl rfl), by (try dsimp only); refine ⟨hi_4_3, by omega, ?_⟩; intro h9; omega⟩, ⟨⟨hh_7.rt (M1 := [(r0, 7, 5, .ref r4)]) [0] rfl ht, by rw [ht]; exact hh_7.2.2.2.2.2.2.2.1.sub [1, 0] rfl⟩, hg_r4⟩⟩, by rw [ht]; try exact hh_7.1.1, fun q h9 hq => by rw [ht]; try exact hh_7.1.2.1 q h9 hq⟩) hh_7.1.2.2 dX5_matches_208
              · skip
                have c_9' : v6_7.toInt ≠ 0 := jb_eq_n (rfl) ((by decide)) c_9
                refine lv_iload hx hb dX5_matches_195 (lv_at hl 5 rfl) ?_
                refine lv_aload hx hb dX5_matches_197 (lv_at hl 4 rfl) ?_
                refine j7_len hx hb hK hh_7 hB280 1 rfl (by decide) hg_r4 (by omega) dX5_matches_199 (fun z_10 hz_10 => ?_)
                refine lv_icmp_ne (tgt := 207) hx hb dX5_matches_200 (by decide) (fun c_11 => ?_) (fun c_11 => ?_)
                · skip
                  have c_11' : v5_4.toInt ≠ z_10.toInt := jb_ne (rfl) (rfl) c_11
                  refine lv_iconst (v := 0) hx hb dX5_matches_207 (by decide) ?_
                  rw [hQ]
                  exact W.zret (v := 0) hx hb hr (jb_nz (Or.inl rfl)) (fun t ht hW => ⟨⟨0, (fx_4, ft_4, r4, n4), rfl, ⟨(Or.inl rfl), by (try dsimp only); refine ⟨hi_4_3, by omega, ?_⟩; intro h9; omega⟩, ⟨⟨hh_7.rt (M1 := [(r0, 7, 5, .ref r4)]) [0] rfl ht, by rw [ht]; exact hh_7.2.2.2.2.2.2.2.1.sub [1, 0] rfl⟩, hg_r4⟩⟩, by rw [ht]; try exact hh_7.1.1, fun q h9 hq => by rw [ht]; try exact hh_7.1.2.1 q h9 hq⟩) hh_7.1.2.2 dX5_matches_208
                · skip
                  have c_11' : v5_4.toInt = z_10.toInt := jb_ne_n (rfl) (rfl) c_11
                  refine lv_iconst (v := 1) hx hb dX5_matches_203 (by decide) ?_
                  refine lv_goto (tgt := 208) hx hb dX5_matches_204 (by decide) ?_
                  rw [hQ]
                  exact W.zret (v := 1) hx hb hr (jb_nz (Or.inr rfl)) (fun t ht hW => ⟨⟨1, (fx_4, ft_4, r4, n4), rfl, ⟨(Or.inr rfl), by (try dsimp only); refine ⟨hi_4_3, by omega, ?_⟩; intro h9; rcases hi_7_2 with h8 | h8; (exact absurd h8 (by omega)); exact h8.cg (by omega)⟩, ⟨⟨hh_7.rt (M1 := [(r0, 7, 5, .ref r4)]) [0] rfl ht, by rw [ht]; exact hh_7.2.2.2.2.2.2.2.1.sub [1, 0] rfl⟩, hg_r4⟩⟩, by rw [ht]; try exact hh_7.1.1, fun q h9 hq => by rw [ht]; try exact hh_7.1.2.1 q h9 hq⟩) hh_7.1.2.2 dX5_matches_208
            · skip
              have c_8' : v7_7.toInt < a3.toInt := jb_ge_n (rfl) (rfl) c_8
              refine lv_iload hx hb dX5_matches_162 (lv_at hl 6 rfl) ?_
              refine lv_if_eq (tgt := 181) hx hb dX5_matches_164 (by decide) (fun c_12 => ?_) (fun c_12 => ?_)
              · skip
                have c_12' : v6_7.toInt = 0 := jb_eq (rfl) ((by decide)) c_12
                refine lv_iconst (v := 0) hx hb dX5_matches_181 (by decide) ?_
                refine lv_istore (lv' := [(6, .int 0), (0, .ref r0), (1, .ref r1), (2, .int a2), (3, .int a3), (4, .ref r4), (5, .int v5_4), (7, .int v7_7)]) hx hb dX5_matches_182 hl (by decide) rfl (fun ls hl => ?_)
                obtain ⟨z_13, ez_13⟩ : ∃ y : Int32, y = v7_7 + 1 := ⟨_, rfl⟩
                refine lv_iinc (v := z_13) (lv' := [(7, .int z_13), (6, .int 0), (0, .ref r0), (1, .ref r1), (2, .int a2), (3, .int a3), (4, .ref r4), (5, .int v5_4)]) hx hb dX5_matches_184 hl (k := 7) rfl (by rw [ez_13]; rfl) (by decide) rfl (fun ls hl => ?_)
                have hz_13 : z_13.toInt = v7_7.toInt + 1 := by rw [ez_13]; exact jb_iadd2 (rfl) (by decide) (by omega)
                refine lv_goto (tgt := 156) hx hb dX5_matches_187 (by decide) ?_
                exact L156 0 z_13 _ _ hh_7 (by refine ⟨by omega, by omega, ?_⟩; first | exact Or.inl (by omega) | (rcases hi_7_2 with h9 | h9; (exact absurd h9 (by omega)); exact Or.inr (h9.step (by omega) (by omega)))) (by omega) _ (lv_sub hl [2, 3, 4, 5, 6, 7, 1, 0] rfl)
              · skip
                have c_12' : v6_7.toInt ≠ 0 := jb_eq_n (rfl) ((by decide)) c_12
                refine lv_aload_n hx hb dX5_matches_167 rfl (lv_at hl 0 rfl) ?_
                refine j7_read hx hb hown hK (C := RX5) (T := TX5) (N := 11) rfl hly_7_7 hlk_47 (hh_7.at 2 rfl) dX5_matches_168 ?_
                refine lv_iload hx hb dX5_matches_171 (lv_at hl 7 rfl) ?_
                refine j7_ialdM hx hb hK hh_7 hB291 1 rfl (by decide) hg_xt (x := v7_7.toInt) (rfl) (by omega) (j := 0) rfl dX5_matches_173 (fun z_14 ez_14 (hz_14 : 0 ≤ z_14.toInt ∧ z_14.toInt ≤ 3000) => ?_)
                have hqz_14 : z_14.toInt = jSo ft_4 (v7_7.toInt) := by unfold jSo; rw [ez_14]
                refine lv_if_le (tgt := 181) hx hb dX5_matches_174 (by decide) (fun c_15 => ?_) (fun c_15 => ?_)
                · skip
                  have c_15' : z_14.toInt ≤ 0 := jb_le (rfl) ((by decide)) c_15
                  refine lv_iconst (v := 0) hx hb dX5_matches_181 (by decide) ?_
                  refine lv_istore (lv' := [(6, .int 0), (0, .ref r0), (1, .ref r1), (2, .int a2), (3, .int a3), (4, .ref r4), (5, .int v5_4), (7, .int v7_7)]) hx hb dX5_matches_182 hl (by decide) rfl (fun ls hl => ?_)
                  obtain ⟨z_16, ez_16⟩ : ∃ y : Int32, y = v7_7 + 1 := ⟨_, rfl⟩
                  refine lv_iinc (v := z_16) (lv' := [(7, .int z_16), (6, .int 0), (0, .ref r0), (1, .ref r1), (2, .int a2), (3, .int a3), (4, .ref r4), (5, .int v5_4)]) hx hb dX5_matches_184 hl (k := 7) rfl (by rw [ez_16]; rfl) (by decide) rfl (fun ls hl => ?_)
                  have hz_16 : z_16.toInt = v7_7.toInt + 1 := by rw [ez_16]; exact jb_iadd2 (rfl) (by decide) (by omega)
                  refine lv_goto (tgt := 156) hx hb dX5_matches_187 (by decide) ?_
                  exact L156 0 z_16 _ _ hh_7 (by refine ⟨by omega, by omega, ?_⟩; first | exact Or.inl (by omega) | (rcases hi_7_2 with h9 | h9; (exact absurd h9 (by omega)); exact Or.inr (h9.step (by omega) (by omega)))) (by omega) _ (lv_sub hl [2, 3, 4, 5, 6, 7, 1, 0] rfl)
                · skip
                  have c_15' : z_14.toInt > 0 := jb_le_n (rfl) ((by decide)) c_15
                  refine lv_iconst (v := 1) hx hb dX5_matches_177 (by decide) ?_
                  refine lv_goto (tgt := 182) hx hb dX5_matches_178 (by decide) ?_
                  refine lv_istore (lv' := [(6, .int 1), (0, .ref r0), (1, .ref r1), (2, .int a2), (3, .int a3), (4, .ref r4), (5, .int v5_4), (7, .int v7_7)]) hx hb dX5_matches_182 hl (by decide) rfl (fun ls hl => ?_)
                  obtain ⟨z_17, ez_17⟩ : ∃ y : Int32, y = v7_7 + 1 := ⟨_, rfl⟩
                  refine lv_iinc (v := z_17) (lv' := [(7, .int z_17), (6, .int 1), (0, .ref r0), (1, .ref r1), (2, .int a2), (3, .int a3), (4, .ref r4), (5, .int v5_4)]) hx hb dX5_matches_184 hl (k := 7) rfl (by rw [ez_17]; rfl) (by decide) rfl (fun ls hl => ?_)
                  have hz_17 : z_17.toInt = v7_7.toInt + 1 := by rw [ez_17]; exact jb_iadd2 (rfl) (by decide) (by omega)
                  refine lv_goto (tgt := 156) hx hb dX5_matches_187 (by decide) ?_
                  exact L156 1 z_17 _ _ hh_7 (by refine ⟨by omega, by omega, ?_⟩; first | exact Or.inl (by omega) | (rcases hi_7_2 with h9 | h9; (exact absurd h9 (by omega)); exact Or.inr (h9.step (by omega) (by omega)))) (by omega) _ (lv_sub hl [2, 3, 4, 5, 6, 7, 1, 0] rfl)
        exact L156 (a3.toInt - (0 : Int32).toInt : Int).toNat.succ 1 0 _ _ hh_4 (by refine ⟨by omega, by omega, Or.inr (jTa.zero (by omega))⟩) (by omega) _ (lv_sub hl [2, 3, 4, 5, 6, 7, 1, 0] rfl)
      · skip
        have c_6' : v6_4.toInt < z_5.toInt := jb_ge_n (rfl) (rfl) c_6
        refine lv_iload hx hb dX5_matches_27 (lv_at hl 5 rfl) ?_
        refine lv_aload hx hb dX5_matches_29 (lv_at hl 4 rfl) ?_
        refine j7_len hx hb hK hh_4 hB280 1 rfl (by decide) hg_r4 (by omega) dX5_matches_31 (fun z_18 hz_18 => ?_)
        refine lv_icmp_lt (tgt := 37) hx hb dX5_matches_32 (by decide) (fun c_19 => ?_) (fun c_19 => ?_)
        · skip
          have c_19' : v5_4.toInt < z_18.toInt := jb_lt (rfl) (rfl) c_19
          refine lv_aload_n hx hb dX5_matches_37 rfl (lv_at hl 1 rfl) ?_
          refine lv_iload hx hb dX5_matches_38 (lv_at hl 6 rfl) ?_
          refine j7_iald hx hb hK hh_4 hB280 1 rfl (by decide) hg_r1 (x := v6_4.toInt) (rfl) (by omega) dX5_matches_40 (fun z_20 (hz_20 : -1 ≤ z_20.toInt) => ?_)
          refine lv_istore (lv' := [(7, .int z_20), (0, .ref r0), (1, .ref r1), (2, .int a2), (3, .int a3), (4, .ref r4), (5, .int v5_4), (6, .int v6_4)]) hx hb dX5_matches_41 hl (by decide) rfl (fun ls hl => ?_)
          refine lv_iload hx hb dX5_matches_43 (lv_at hl 0 rfl) ?_
          refine lv_bipush (v := 15) hx hb dX5_matches_45 (by decide) ?_
          refine lv_iand hx hb dX5_matches_47 ?_
          refine lv_topi (fun z_21 ez_21 => ?_)
          have hz_21 : 0 ≤ z_21.toInt ∧ z_21.toInt ≤ 15 := by rw [ez_21]; exact jb_and z_20 (m := 15) (k := 4) (by decide) (by decide)
          have hbz_21 : z_21.toInt = z_20.toInt % 16 := by rw [ez_21, jb_and15]
          refine lv_bipush (v := 10) hx hb dX5_matches_48 (by decide) ?_
          have C58 : ∀ (w0_22 : Int32) (H_22 : Heap) (locs_22 : List Loc), jSt (dC, dI) B base G0 G0 EX5_matches s.heap 0 0 [(r0, 7, 5, .ref r4), (r0, 7, 6, .ref xf), (r0, 7, 7, .ref xt)] [(xt, 291, 13, ca 1, ft_4), (xf, 290, 13, ca 1, fx_4)] [] H_22 locs_22 → (w0_22 = 0 ∨ w0_22 = 1) → (w0_22.toInt = 0 ∨ z_20.toInt % 16 = 10) → ∀ ls : Array Slot, lv_has ls 10 [(0, .ref r0), (1, .ref r1), (2, .int a2), (3, .int a3), (4, .ref r4), (5, .int v5_4), (6, .int v6_4), (7, .int z_20)] → W p l e R s m ([.ref r0, .ref r1, .int a2, .int a3, .ref r4] : List Value).toArray below meth c H_22 locs_22 0 0 Q (F0 m 58 ls [.int w0_22]) := by
            intro w0_22 H_22 locs_22 hh_22 hb_w0_22 hi_22 ls hl
            have hb_w0_22' := jb_01 hb_w0_22
            refine lv_istore (lv' := [(8, .int w0_22), (0, .ref r0), (1, .ref r1), (2, .int a2), (3, .int a3), (4, .ref r4), (5, .int v5_4), (6, .int v6_4), (7, .int z_20)]) hx hb dX5_matches_58 hl (by decide) rfl (fun ls hl => ?_)
            refine lv_iload hx hb dX5_matches_60 (lv_at hl 0 rfl) ?_
            refine lv_if_eq (tgt := 111) hx hb dX5_matches_62 (by decide) (fun c_23 => ?_) (fun c_23 => ?_)
            · skip
              have c_23' : w0_22.toInt = 0 := jb_eq (rfl) ((by decide)) c_23
              refine lv_iload hx hb dX5_matches_111 (lv_at hl 0 rfl) ?_
              refine lv_if_eq (tgt := 126) hx hb dX5_matches_113 (by decide) (fun c_24 => ?_) (fun c_24 => ?_)
              · skip
                have c_24' : w0_22.toInt = 0 := jb_eq (rfl) ((by decide)) c_24
                refine lv_iload hx hb dX5_matches_126 (lv_at hl 8 rfl) ?_
                refine lv_aload hx hb dX5_matches_128 (lv_at hl 5 rfl) ?_
                refine lv_iload hx hb dX5_matches_130 (lv_at hl 6 rfl) ?_
                refine j7_iald hx hb hK hh_22 hB280 1 rfl (by decide) hg_r4 (x := v5_4.toInt) (rfl) (by omega) dX5_matches_132 (fun z_25 (hz_25 : -1 ≤ z_25.toInt) => ?_)
                refine vp_callSi (W.runS (As := [.int z_20, .int z_25]) (rest := []) ⟨hx, hb, hml, hown, hts⟩ (wX5_areAlike l dC dI ca base H_22 z_20 z_25) (va_cwS 2 hts (jgS (jWr_86 _ (List.mem_of_getElem? (i := 9) rfl)) (jWr_86 _ (List.mem_of_getElem? (i := 10) rfl)) (jWr_2 _ (List.mem_of_getElem? (i := 4) rfl)) (jWr_86 _ (List.mem_of_getElem? (i := 11) rfl))) rfl rfl rfl (by decide +kernel) ⟨by rw [← hR]; exact Nat.le_of_ble_eq_true rfl, by rw [← hR]; exact Nat.le_of_ble_eq_true rfl⟩) ⟨fun a U g mk q => by obtain ⟨q0, q1, qK, q9⟩ := q; exact ⟨q0, q1, jG.calling g mk a qK, q9⟩, fun U hU hW => ⟨rfl, hU, hG.step hW hU hh_22.1, by first | trivial | omega | (constructor <;> omega)⟩⟩ rfl rfl hl.1 rfl (lv_room (Nat.le_of_ble_eq_true rfl)) dX5_matches_133 ⟨Nat.zero_le _, Nat.zero_le _⟩) (fun r_26 hr_26 => ?_)
                have hr_26' : r_26.toInt = 0 ∨ r_26.toInt = 1 := jb_01 hr_26
                refine lv_if_ne (tgt := 141) hx hb dX5_matches_136 (by decide) (fun c_27 => ?_) (fun c_27 => ?_)
                · skip
                  have c_27' : r_26.toInt ≠ 0 := jb_ne (rfl) ((by decide)) c_27
                  obtain ⟨z_28, ez_28⟩ : ∃ y : Int32, y = v5_4 + 1 := ⟨_, rfl⟩
                  refine lv_iinc (v := z_28) (lv' := [(5, .int z_28), (8, .int w0_22), (0, .ref r0), (1, .ref r1), (2, .int a2), (3, .int a3), (4, .ref r4), (6, .int v6_4), (7, .int z_20)]) hx hb dX5_matches_141 hl (k := 6) rfl (by rw [ez_28]; rfl) (by decide) rfl (fun ls hl => ?_)
                  have hz_28 : z_28.toInt = v5_4.toInt + 1 := by rw [ez_28]; exact jb_iadd2 (rfl) (by decide) (by omega)
                  obtain ⟨z_29, ez_29⟩ : ∃ y : Int32, y = v6_4 + 1 := ⟨_, rfl⟩
                  refine lv_iinc (v := z_29) (lv' := [(6, .int z_29), (5, .int z_28), (8, .int w0_22), (0, .ref r0), (1, .ref r1), (2, .int a2), (3, .int a3), (4, .ref r4), (7, .int z_20)]) hx hb dX5_matches_144 hl (k := 7) rfl (by rw [ez_29]; rfl) (by decide) rfl (fun ls hl => ?_)
                  have hz_29 : z_29.toInt = v6_4.toInt + 1 := by rw [ez_29]; exact jb_iadd2 (rfl) (by decide) (by omega)
                  refine lv_goto (tgt := 20) hx hb dX5_matches_147 (by decide) ?_
                  exact L20 z_28 z_29 fx_4 ft_4 _ _ hh_22 (⟨(by first | omega | rfl | assumption | exact (zz_none)), (by first | omega | rfl | assumption | exact (zz_none)), (by first | omega | rfl | assumption | exact (zz_none)), (by first | assumption | exact (zz_none) | omega)⟩) (by omega) _ (lv_sub hl [3, 4, 5, 6, 7, 1, 0] rfl)
                · skip
                  have c_27' : r_26.toInt = 0 := jb_ne_n (rfl) ((by decide)) c_27
                  refine lv_iconst (v := 0) hx hb dX5_matches_139 (by decide) ?_
                  rw [hQ]
                  exact W.zret (v := 0) hx hb hr (jb_nz (Or.inl rfl)) (fun t ht hW => ⟨⟨0, (fx_4, ft_4, r4, n4), rfl, ⟨(Or.inl rfl), by (try dsimp only); refine ⟨hi_4_3, by omega, ?_⟩; intro h9; omega⟩, ⟨⟨hh_22.rt (M1 := [(r0, 7, 5, .ref r4)]) [0] rfl ht, by rw [ht]; exact hh_22.2.2.2.2.2.2.2.1.sub [1, 0] rfl⟩, hg_r4⟩⟩, by rw [ht]; try exact hh_22.1.1, fun q h9 hq => by rw [ht]; try exact hh_22.1.2.1 q h9 hq⟩) hh_22.1.2.2 dX5_matches_140
              · skip
                have c_24' : w0_22.toInt ≠ 0 := jb_eq_n (rfl) ((by decide)) c_24
                exact (by omega : False).elim
            · skip
              have c_23' : w0_22.toInt ≠ 0 := jb_eq_n (rfl) ((by decide)) c_23
              refine lv_iload hx hb dX5_matches_65 (lv_at hl 8 rfl) ?_
              refine lv_bipush (v := 15) hx hb dX5_matches_67 (by decide) ?_
              refine lv_ishr hx hb dX5_matches_69 ?_
              refine lv_topi (fun z_30 ez_30 => ?_)
              have hz_30 : z_30.toInt = z_20.toInt / 2 ^ 15 := by rw [ez_30]; exact jb_ishr 15 (rfl) (by decide)
              refine lv_iload_n hx hb dX5_matches_70 rfl (lv_at hl 4 rfl) ?_
              refine lv_icmp_ge (tgt := 111) hx hb dX5_matches_71 (by decide) (fun c_31 => ?_) (fun c_31 => ?_)
              · skip
                have c_31' : z_30.toInt ≥ a3.toInt := jb_ge (rfl) (rfl) c_31
                refine lv_iload hx hb dX5_matches_111 (lv_at hl 0 rfl) ?_
                refine lv_if_eq (tgt := 126) hx hb dX5_matches_113 (by decide) (fun c_32 => ?_) (fun c_32 => ?_)
                · skip
                  have c_32' : w0_22.toInt = 0 := jb_eq (rfl) ((by decide)) c_32
                  exact (by omega : False).elim
                · skip
                  have c_32' : w0_22.toInt ≠ 0 := jb_eq_n (rfl) ((by decide)) c_32
                  refine lv_iload hx hb dX5_matches_116 (lv_at hl 8 rfl) ?_
                  refine lv_iload_n hx hb dX5_matches_118 rfl (lv_at hl 4 rfl) ?_
                  refine lv_bipush (v := 15) hx hb dX5_matches_119 (by decide) ?_
                  refine lv_ishl hx hb dX5_matches_121 ?_
                  refine lv_topi (fun z_33 ez_33 => ?_)
                  refine lv_isub hx hb dX5_matches_122 ?_
                  refine lv_topi (fun z_34 ez_34 => ?_)
                  refine lv_goto (tgt := 128) hx hb dX5_matches_123 (by decide) ?_
                  refine lv_aload hx hb dX5_matches_128 (lv_at hl 5 rfl) ?_
                  refine lv_iload hx hb dX5_matches_130 (lv_at hl 6 rfl) ?_
                  refine j7_iald hx hb hK hh_22 hB280 1 rfl (by decide) hg_r4 (x := v5_4.toInt) (rfl) (by omega) dX5_matches_132 (fun z_35 (hz_35 : -1 ≤ z_35.toInt) => ?_)
                  refine vp_callSi (W.runS (As := [.int z_34, .int z_35]) (rest := []) ⟨hx, hb, hml, hown, hts⟩ (wX5_areAlike l dC dI ca base H_22 z_34 z_35) (va_cwS 2 hts (jgS (jWr_86 _ (List.mem_of_getElem? (i := 9) rfl)) (jWr_86 _ (List.mem_of_getElem? (i := 10) rfl)) (jWr_2 _ (List.mem_of_getElem? (i := 4) rfl)) (jWr_86 _ (List.mem_of_getElem? (i := 11) rfl))) rfl rfl rfl (by decide +kernel) ⟨by rw [← hR]; exact Nat.le_of_ble_eq_true rfl, by rw [← hR]; exact Nat.le_of_ble_eq_true rfl⟩) ⟨fun a U g mk q => by obtain ⟨q0, q1, qK, q9⟩ := q; exact ⟨q0, q1, jG.calling g mk a qK, q9⟩, fun U hU hW => ⟨rfl, hU, hG.step hW hU hh_22.1, by first | trivial | omega | (constructor <;> omega)⟩⟩ rfl rfl hl.1 rfl (lv_room (Nat.le_of_ble_eq_true rfl)) dX5_matches_133 ⟨Nat.zero_le _, Nat.zero_le _⟩) (fun r_36 hr_36 => ?_)
                  have hr_36' : r_36.toInt = 0 ∨ r_36.toInt = 1 := jb_01 hr_36
                  refine lv_if_ne (tgt := 141) hx hb dX5_matches_136 (by decide) (fun c_37 => ?_) (fun c_37 => ?_)
                  · skip
                    have c_37' : r_36.toInt ≠ 0 := jb_ne (rfl) ((by decide)) c_37
                    obtain ⟨z_38, ez_38⟩ : ∃ y : Int32, y = v5_4 + 1 := ⟨_, rfl⟩
                    refine lv_iinc (v := z_38) (lv' := [(5, .int z_38), (8, .int w0_22), (0, .ref r0), (1, .ref r1), (2, .int a2), (3, .int a3), (4, .ref r4), (6, .int v6_4), (7, .int z_20)]) hx hb dX5_matches_141 hl (k := 6) rfl (by rw [ez_38]; rfl) (by decide) rfl (fun ls hl => ?_)
                    have hz_38 : z_38.toInt = v5_4.toInt + 1 := by rw [ez_38]; exact jb_iadd2 (rfl) (by decide) (by omega)
                    obtain ⟨z_39, ez_39⟩ : ∃ y : Int32, y = v6_4 + 1 := ⟨_, rfl⟩
                    refine lv_iinc (v := z_39) (lv' := [(6, .int z_39), (5, .int z_38), (8, .int w0_22), (0, .ref r0), (1, .ref r1), (2, .int a2), (3, .int a3), (4, .ref r4), (7, .int z_20)]) hx hb dX5_matches_144 hl (k := 7) rfl (by rw [ez_39]; rfl) (by decide) rfl (fun ls hl => ?_)
                    have hz_39 : z_39.toInt = v6_4.toInt + 1 := by rw [ez_39]; exact jb_iadd2 (rfl) (by decide) (by omega)
                    refine lv_goto (tgt := 20) hx hb dX5_matches_147 (by decide) ?_
                    exact L20 z_38 z_39 fx_4 ft_4 _ _ hh_22 (⟨(by first | omega | rfl | assumption | exact (zz_none)), (by first | omega | rfl | assumption | exact (zz_none)), (by first | omega | rfl | assumption | exact (zz_none)), (by first | assumption | exact (zz_none) | omega)⟩) (by omega) _ (lv_sub hl [3, 4, 5, 6, 7, 1, 0] rfl)
                  · skip
                    have c_37' : r_36.toInt = 0 := jb_ne_n (rfl) ((by decide)) c_37
                    refine lv_iconst (v := 0) hx hb dX5_matches_139 (by decide) ?_
                    rw [hQ]
                    exact W.zret (v := 0) hx hb hr (jb_nz (Or.inl rfl)) (fun t ht hW => ⟨⟨0, (fx_4, ft_4, r4, n4), rfl, ⟨(Or.inl rfl), by (try dsimp only); refine ⟨hi_4_3, by omega, ?_⟩; intro h9; omega⟩, ⟨⟨hh_22.rt (M1 := [(r0, 7, 5, .ref r4)]) [0] rfl ht, by rw [ht]; exact hh_22.2.2.2.2.2.2.2.1.sub [1, 0] rfl⟩, hg_r4⟩⟩, by rw [ht]; try exact hh_22.1.1, fun q h9 hq => by rw [ht]; try exact hh_22.1.2.1 q h9 hq⟩) hh_22.1.2.2 dX5_matches_140
              · skip
                have c_31' : z_30.toInt < a3.toInt := jb_ge_n (rfl) (rfl) c_31
                refine lv_aload hx hb dX5_matches_74 (lv_at hl 5 rfl) ?_
                refine lv_iload hx hb dX5_matches_76 (lv_at hl 6 rfl) ?_
                refine lv_aload hx hb dX5_matches_78 (lv_at hl 5 rfl) ?_
                refine j7_len hx hb hK hh_22 hB280 1 rfl (by decide) hg_r4 (by omega) dX5_matches_80 (fun z_40 hz_40 => ?_)
                refine va_calli (A0 := jA base) (H0 := s.heap) (va_runSN (As := [.ref r4, .int v5_4, .int z_40]) (rest := []) ⟨hx, hb, hml, hown, hts⟩ (uX11_endOfB l dC dI ca base B hB hAp hB280 G0 H_22 r4 v5_4 z_40 n4) ⟨va_cnB 3 hts (jgW (jWr_32 _ (List.mem_of_getElem? (i := 4) rfl))) rfl rfl rfl (hG.2.2.1 RX5 183 yX11_endOf "ProofServer" (List.mem_of_getElem? (i := 1460) (by decide +kernel))) (htw (.initialized RX11) (jWr_1 _ (List.mem_of_getElem? (i := 2) rfl))) (by decide +kernel) ⟨by rw [← hR]; exact Nat.le_of_ble_eq_true rfl, by rw [← hR]; exact Nat.le_of_ble_eq_true rfl⟩, htw (.static yX11_endOf) (jWr_32 _ (List.mem_of_getElem? (i := 3) rfl)), trivial⟩ ⟨fun a U g mk q => by obtain ⟨q0, q1, q2, qK, q10, q11, q12⟩ := q; exact ⟨q0, q1, q2, jG.calling g mk a qK, q10, q11, q12⟩, fun U hU hW => ⟨rfl, hU, hh_22.2.1, hG.step hW hU hh_22.1, hg_r4, jP.nil, by first | omega | (refine ⟨?_, ?_, ?_⟩ <;> (first | omega | rfl | assumption | decide | exact Or.inl rfl | exact Or.inr rfl | (simp only; omega)))⟩⟩ rfl rfl hl.1 rfl (lv_room (Nat.le_of_ble_eq_true rfl)) dX5_matches_81 ⟨Nat.zero_le _, Nat.zero_le _⟩) hh_22.1 (fun q _ h => h) (fun q h => h) (fun r_42 u_41 t_41 H_41 locs_41 ht_41 hvm_41 hr_42 hb_41 hz_41 hk_41 hS_41 => ?_)
                rw [ht_41] at hb_41
                obtain ⟨hb_411, hb_412, hb_413, hb_414, hb_415⟩ := hb_41
                have hh_41 : jSt (dC, dI) B base G0 G0 EX5_matches s.heap 0 0 [(r0, 7, 5, .ref r4), (r0, 7, 6, .ref xf), (r0, 7, 7, .ref xt)] [(xt, 291, 13, ca 1, ft_4), (xf, 290, 13, ca 1, fx_4)] [] H_41 locs_41 := ((hh_22.call hb_411 hb_412 hb_413 hb_414 hS_41 rfl (L1 := [(r0, 7, 5, .ref r4), (r0, 7, 6, .ref xf), (r0, 7, 7, .ref xt)]) [0, 1, 2] rfl rfl (M1 := [(xt, 291, 13, ca 1, ft_4), (xf, 290, 13, ca 1, fx_4)]) [0, 1] rfl rfl (I1 := []) [] rfl rfl).more hb_415)
                clear hh_22 ht_41 hvm_41 hz_41 hk_41 hS_41 hb_411 hb_412 hb_413 hb_414 hb_415
                obtain ⟨hr_42_0, hr_42_1⟩ := hr_42
                refine lv_istore (lv' := [(9, .int r_42), (8, .int w0_22), (0, .ref r0), (1, .ref r1), (2, .int a2), (3, .int a3), (4, .ref r4), (5, .int v5_4), (6, .int v6_4), (7, .int z_20)]) hx hb dX5_matches_84 hl (by decide) rfl (fun ls hl => ?_)
                refine lv_aload_n hx hb dX5_matches_86 rfl (lv_at hl 2 rfl) ?_
                refine lv_iload hx hb dX5_matches_87 (lv_at hl 9 rfl) ?_
                refine lv_bipush (v := 15) hx hb dX5_matches_89 (by decide) ?_
                refine lv_ishr hx hb dX5_matches_91 ?_
                refine lv_topi (fun z_43 ez_43 => ?_)
                have hz_43 : z_43.toInt = z_20.toInt / 2 ^ 15 := by rw [ez_43]; exact jb_ishr 15 (rfl) (by decide)
                refine lv_iload hx hb dX5_matches_92 (lv_at hl 7 rfl) ?_
                refine lv_iload hx hb dX5_matches_94 (lv_at hl 0 rfl) ?_
                refine va_calli (A0 := jA base) (H0 := s.heap) (va_runV (As := [.int z_43, .int v5_4, .int r_42]) (rest := []) ⟨hx, hb, hml, hown, hts⟩ (uX5_tells l dC dI ca base B hB hAp hB7 hB280 hB290 hB291 G0 H_41 r0 z_43 v5_4 r_42 r4 n4 xf xt fx_4 ft_4) (cwV 3 hts (jgV (jWr_87 _ (List.mem_of_getElem? (i := 2) rfl)) (jWr_87 _ (List.mem_of_getElem? (i := 3) rfl)) (jWr_87 _ (List.mem_of_getElem? (i := 4) rfl)) (jWr_2 _ (List.mem_of_getElem? (i := 4) rfl)) (jWr_87 _ (List.mem_of_getElem? (i := 5) rfl))) rfl rfl rfl (by decide +kernel) ⟨by rw [← hR]; exact Nat.le_of_ble_eq_true rfl, by rw [← hR]; exact Nat.le_of_ble_eq_true rfl⟩) ⟨fun a U g mk q => by obtain ⟨q0, q1, q2, qK, q10, q11, q12, q13, q14, q15, q16⟩ := q; exact ⟨q0, q1, q2, jG.calling g mk a qK, q10, q11, q12, q13, q14, q15, q16⟩, hh_41.recv (C := RX5) (T := TX5) (N := 11) hB7 rfl (by decide) hg_r0 hK, fun U hU hW => ⟨rfl, hU, hh_41.2.1, hG.step hW hU hh_41.1, hg_r0, hg_r4, hg_xf, hg_xt, (hh_41.2.2.1.sub (L1 := [(r0, 7, 5, .ref r4), (r0, 7, 6, .ref xf), (r0, 7, 7, .ref xt)]) [0, 1, 2] rfl), (hh_41.2.2.2.2.2.2.2.1.sub (L1 := [(xf, 290, 13, ca 1, fx_4), (xt, 291, 13, ca 1, ft_4)]) [1, 0] rfl), by first | omega | (refine ⟨?_, ?_, ?_, ?_, ?_, ?_, ?_⟩ <;> (first | omega | rfl | assumption | decide | exact Or.inl rfl | exact Or.inr rfl | (simp only; omega)))⟩⟩ rfl rfl hl.1 rfl (lv_room (Nat.le_of_ble_eq_true rfl)) dX5_matches_96 ⟨Nat.zero_le _, Nat.zero_le _⟩) hh_41.1 (fun q _ h => h) (fun q h => h) (fun r_45 u_44 t_44 H_44 locs_44 ht_44 hvm_44 hr_45 hb_44 hz_44 hk_44 hS_44 => ?_)
                obtain ⟨fx2_44, ft2_44⟩ := u_44
                rw [ht_44] at hb_44
                obtain ⟨⟨hb_441, hb_442, hb_443, hb_444, hb_445⟩, hb_446⟩ := hb_44
                have hh_44 : jSt (dC, dI) B base G0 G0 EX5_matches s.heap 0 0 [(r0, 7, 5, .ref r4), (r0, 7, 6, .ref xf), (r0, 7, 7, .ref xt)] [(xf, 290, 13, ca 1, fx2_44), (xt, 291, 13, ca 1, ft2_44)] [] H_44 locs_44 := ((hh_41.call hb_441 hb_442 hb_443 hb_444 hS_44 rfl (L1 := [(r0, 7, 5, .ref r4), (r0, 7, 6, .ref xf), (r0, 7, 7, .ref xt)]) [0, 1, 2] rfl rfl (M1 := []) [] rfl rfl (I1 := []) [] rfl rfl).more hb_445).moreM hb_446
                clear hh_41 ht_44 hvm_44 hz_44 hk_44 hS_44 hb_441 hb_442 hb_443 hb_444 hb_445
                clear hb_446
                try simp only at hr_45
                obtain ⟨hr_45b, hr_45p⟩ := hr_45
                have hr_45' := jb_01 hr_45b
                refine lv_if_ne (tgt := 104) hx hb dX5_matches_99 (by decide) (fun c_46 => ?_) (fun c_46 => ?_)
                · skip
                  have c_46' : r_45.toInt ≠ 0 := jb_ne (rfl) ((by decide)) c_46
                  first | (have hr_42_1q := hr_42_1.resolve_left (by omega); clear hr_42_1) | (have hr_42_1q := hr_42_1.resolve_right (by omega); clear hr_42_1) | skip
                  refine lv_iload hx hb dX5_matches_104 (lv_at hl 0 rfl) ?_
                  refine lv_istore (lv' := [(5, .int r_42), (9, .int r_42), (8, .int w0_22), (0, .ref r0), (1, .ref r1), (2, .int a2), (3, .int a3), (4, .ref r4), (6, .int v6_4), (7, .int z_20)]) hx hb dX5_matches_106 hl (by decide) rfl (fun ls hl => ?_)
                  refine lv_goto (tgt := 144) hx hb dX5_matches_108 (by decide) ?_
                  obtain ⟨z_47, ez_47⟩ : ∃ y : Int32, y = v6_4 + 1 := ⟨_, rfl⟩
                  refine lv_iinc (v := z_47) (lv' := [(6, .int z_47), (5, .int r_42), (9, .int r_42), (8, .int w0_22), (0, .ref r0), (1, .ref r1), (2, .int a2), (3, .int a3), (4, .ref r4), (7, .int z_20)]) hx hb dX5_matches_144 hl (k := 8) rfl (by rw [ez_47]; rfl) (by decide) rfl (fun ls hl => ?_)
                  have hz_47 : z_47.toInt = v6_4.toInt + 1 := by rw [ez_47]; exact jb_iadd2 (rfl) (by decide) (by omega)
                  refine lv_goto (tgt := 20) hx hb dX5_matches_147 (by decide) ?_
                  exact L20 r_42 z_47 fx2_44 ft2_44 _ _ (hh_44.sub (L1 := [(r0, 7, 5, .ref r4), (r0, 7, 6, .ref xf), (r0, 7, 7, .ref xt)]) [0, 1, 2] rfl (M1 := [(xt, 291, 13, ca 1, ft2_44), (xf, 290, 13, ca 1, fx2_44)]) [1, 0] rfl (I1 := []) [] rfl) (⟨(by first | omega | rfl | assumption | exact hr_45p), (by first | omega | rfl | assumption | exact hr_45p), (by first | omega | rfl | assumption | exact hr_45p), (by first | assumption | exact hr_45p | omega)⟩) (by omega) _ (lv_sub hl [4, 5, 6, 7, 8, 1, 0] rfl)
                · skip
                  have c_46' : r_45.toInt = 0 := jb_ne_n (rfl) ((by decide)) c_46
                  first | (have hr_42_1q := hr_42_1.resolve_left (by omega); clear hr_42_1) | (have hr_42_1q := hr_42_1.resolve_right (by omega); clear hr_42_1) | skip
                  refine lv_iconst (v := 0) hx hb dX5_matches_102 (by decide) ?_
                  rw [hQ]
                  exact W.zret (v := 0) hx hb hr (jb_nz (Or.inl rfl)) (fun t ht hW => ⟨⟨0, (fx2_44, ft2_44, r4, n4), rfl, ⟨(Or.inl rfl), by (try dsimp only); refine ⟨hr_45p, by omega, ?_⟩; intro h9; omega⟩, ⟨⟨hh_44.rt (M1 := [(r0, 7, 5, .ref r4)]) [0] rfl ht, by rw [ht]; exact hh_44.2.2.2.2.2.2.2.1.sub [0, 1] rfl⟩, hg_r4⟩⟩, by rw [ht]; try exact hh_44.1.1, fun q h9 hq => by rw [ht]; try exact hh_44.1.2.1 q h9 hq⟩) hh_44.1.2.2 dX5_matches_103
          refine lv_icmp_ne (tgt := 57) hx hb dX5_matches_50 (by decide) (fun c_48 => ?_) (fun c_48 => ?_)
          · skip
            have c_48' : z_21.toInt ≠ 10 := jb_ne (rfl) ((by decide)) c_48
            refine lv_iconst (v := 0) hx hb dX5_matches_57 (by decide) ?_
            exact C58 0 _ _ hh_4 (Or.inl rfl) (by first | omega | rfl | assumption | decide | exact Or.inl rfl | exact Or.inr rfl | (simp only; omega)) _ (lv_sub hl [1, 2, 3, 4, 5, 6, 7, 0] rfl)
          · skip
            have c_48' : z_21.toInt = 10 := jb_ne_n (rfl) ((by decide)) c_48
            refine lv_iconst (v := 1) hx hb dX5_matches_53 (by decide) ?_
            refine lv_goto (tgt := 58) hx hb dX5_matches_54 (by decide) ?_
            exact C58 1 _ _ hh_4 (Or.inr rfl) (by first | omega | rfl | assumption | decide | exact Or.inl rfl | exact Or.inr rfl | (simp only; omega)) _ (lv_sub hl [1, 2, 3, 4, 5, 6, 7, 0] rfl)
        · skip
          have c_19' : v5_4.toInt ≥ z_18.toInt := jb_lt_n (rfl) (rfl) c_19
          refine lv_iconst (v := 0) hx hb dX5_matches_35 (by decide) ?_
          rw [hQ]
          exact W.zret (v := 0) hx hb hr (jb_nz (Or.inl rfl)) (fun t ht hW => ⟨⟨0, (fx_4, ft_4, r4, n4), rfl, ⟨(Or.inl rfl), by (try dsimp only); refine ⟨hi_4_3, by omega, ?_⟩; intro h9; omega⟩, ⟨⟨hh_4.rt (M1 := [(r0, 7, 5, .ref r4)]) [0] rfl ht, by rw [ht]; exact hh_4.2.2.2.2.2.2.2.1.sub [1, 0] rfl⟩, hg_r4⟩⟩, by rw [ht]; try exact hh_4.1.1, fun q h9 hq => by rw [ht]; try exact hh_4.1.2.1 q h9 hq⟩) hh_4.1.2.2 dX5_matches_36
  exact L20 (((n1 - (a2 : Int32).toInt).toNat : Int) : Int).toNat.succ 0 a2 fx fz_1 _ _ hh_3 (by refine ⟨by omega, by omega, by omega, hr_2.tt (by omega)⟩) (by omega) _ (lv_sub hl [2, 3, 4, 5, 6, 1, 0] rfl)
end
section
theorem dX5_opened_0 : decode cX5_opened 0 = .ok (.aload_n 0, 1) := by decide +kernel
theorem dX5_opened_1 : decode cX5_opened 1 = .ok (.aload_n 2, 1) := by decide +kernel
theorem dX5_opened_2 : decode cX5_opened 2 = .ok (.putfield 41, 3) := by decide +kernel
theorem dX5_opened_5 : decode cX5_opened 5 = .ok (.aload_n 0, 1) := by decide +kernel
theorem dX5_opened_6 : decode cX5_opened 6 = .ok (.getfield 44, 3) := by decide +kernel
theorem dX5_opened_9 : decode cX5_opened 9 = .ok (.iconst 0, 1) := by decide +kernel
theorem dX5_opened_10 : decode cX5_opened 10 = .ok (.iconst 0, 1) := by decide +kernel
theorem dX5_opened_11 : decode cX5_opened 11 = .ok (.iastore, 1) := by decide +kernel
theorem dX5_opened_12 : decode cX5_opened 12 = .ok (.aload_n 0, 1) := by decide +kernel
theorem dX5_opened_13 : decode cX5_opened 13 = .ok (.getfield 47, 3) := by decide +kernel
theorem dX5_opened_16 : decode cX5_opened 16 = .ok (.iconst 0, 1) := by decide +kernel
theorem dX5_opened_17 : decode cX5_opened 17 = .ok (.iload_n 3, 1) := by decide +kernel
theorem dX5_opened_18 : decode cX5_opened 18 = .ok (.aload_n 2, 1) := by decide +kernel
theorem dX5_opened_19 : decode cX5_opened 19 = .ok (.arraylength, 1) := by decide +kernel
theorem dX5_opened_20 : decode cX5_opened 20 = .ok (.invokestatic 303, 3) := by decide +kernel
theorem dX5_opened_23 : decode cX5_opened 23 = .ok (.iastore, 1) := by decide +kernel
theorem dX5_opened_24 : decode cX5_opened 24 = .ok (.aload_n 0, 1) := by decide +kernel
theorem dX5_opened_25 : decode cX5_opened 25 = .ok (.aload_n 1, 1) := by decide +kernel
theorem dX5_opened_26 : decode cX5_opened 26 = .ok (.iconst 1, 1) := by decide +kernel
theorem dX5_opened_27 : decode cX5_opened 27 = .ok (.aload_n 1, 1) := by decide +kernel
theorem dX5_opened_28 : decode cX5_opened 28 = .ok (.arraylength, 1) := by decide +kernel
theorem dX5_opened_29 : decode cX5_opened 29 = .ok (.iconst 1, 1) := by decide +kernel
theorem dX5_opened_30 : decode cX5_opened 30 = .ok (.invokevirtual 265, 3) := by decide +kernel
theorem dX5_opened_33 : decode cX5_opened 33 = .ok (.areturn, 1) := by decide +kernel
theorem dX5_instance_0 : decode cX5_instance 0 = .ok (.iconst 0, 1) := by decide +kernel
theorem dX5_instance_1 : decode cX5_instance 1 = .ok (.istore 5, 2) := by decide +kernel
theorem dX5_instance_3 : decode cX5_instance 3 = .ok (.iload_n 2, 1) := by decide +kernel
theorem dX5_instance_4 : decode cX5_instance 4 = .ok (.istore 6, 2) := by decide +kernel
theorem dX5_instance_6 : decode cX5_instance 6 = .ok (.iload 6, 2) := by decide +kernel
theorem dX5_instance_8 : decode cX5_instance 8 = .ok (.iload_n 3, 1) := by decide +kernel
theorem dX5_instance_9 : decode cX5_instance 9 = .ok (.if_icmp .ge 73, 3) := by decide +kernel
theorem dX5_instance_12 : decode cX5_instance 12 = .ok (.iload 6, 2) := by decide +kernel
theorem dX5_instance_14 : decode cX5_instance 14 = .ok (.aload_n 1, 1) := by decide +kernel
theorem dX5_instance_15 : decode cX5_instance 15 = .ok (.arraylength, 1) := by decide +kernel
theorem dX5_instance_16 : decode cX5_instance 16 = .ok (.if_icmp .ge 66, 3) := by decide +kernel
theorem dX5_instance_19 : decode cX5_instance 19 = .ok (.aload_n 1, 1) := by decide +kernel
theorem dX5_instance_20 : decode cX5_instance 20 = .ok (.iload 6, 2) := by decide +kernel
theorem dX5_instance_22 : decode cX5_instance 22 = .ok (.iaload, 1) := by decide +kernel
theorem dX5_instance_23 : decode cX5_instance 23 = .ok (.bipush 15, 2) := by decide +kernel
theorem dX5_instance_25 : decode cX5_instance 25 = .ok (.iand, 1) := by decide +kernel
theorem dX5_instance_26 : decode cX5_instance 26 = .ok (.bipush 10, 2) := by decide +kernel
theorem dX5_instance_28 : decode cX5_instance 28 = .ok (.if_icmp .ne 19, 3) := by decide +kernel
theorem dX5_instance_31 : decode cX5_instance 31 = .ok (.aload_n 1, 1) := by decide +kernel
theorem dX5_instance_32 : decode cX5_instance 32 = .ok (.iload 6, 2) := by decide +kernel
theorem dX5_instance_34 : decode cX5_instance 34 = .ok (.iaload, 1) := by decide +kernel
theorem dX5_instance_35 : decode cX5_instance 35 = .ok (.bipush 15, 2) := by decide +kernel
theorem dX5_instance_37 : decode cX5_instance 37 = .ok (.ishr, 1) := by decide +kernel
theorem dX5_instance_38 : decode cX5_instance 38 = .ok (.iload 4, 2) := by decide +kernel
theorem dX5_instance_40 : decode cX5_instance 40 = .ok (.if_icmp .ge 7, 3) := by decide +kernel
theorem dX5_instance_43 : decode cX5_instance 43 = .ok (.iconst 1, 1) := by decide +kernel
theorem dX5_instance_44 : decode cX5_instance 44 = .ok (.goto 4, 3) := by decide +kernel
theorem dX5_instance_47 : decode cX5_instance 47 = .ok (.iconst 0, 1) := by decide +kernel
theorem dX5_instance_48 : decode cX5_instance 48 = .ok (.istore 7, 2) := by decide +kernel
theorem dX5_instance_50 : decode cX5_instance 50 = .ok (.iload 5, 2) := by decide +kernel
theorem dX5_instance_52 : decode cX5_instance 52 = .ok (.iload 7, 2) := by decide +kernel
theorem dX5_instance_54 : decode cX5_instance 54 = .ok (.ifCond .eq 18, 3) := by decide +kernel
theorem dX5_instance_57 : decode cX5_instance 57 = .ok (.aload_n 0, 1) := by decide +kernel
theorem dX5_instance_58 : decode cX5_instance 58 = .ok (.getfield 47, 3) := by decide +kernel
theorem dX5_instance_61 : decode cX5_instance 61 = .ok (.aload_n 1, 1) := by decide +kernel
theorem dX5_instance_62 : decode cX5_instance 62 = .ok (.iload 6, 2) := by decide +kernel
theorem dX5_instance_64 : decode cX5_instance 64 = .ok (.iaload, 1) := by decide +kernel
theorem dX5_instance_65 : decode cX5_instance 65 = .ok (.bipush 15, 2) := by decide +kernel
theorem dX5_instance_67 : decode cX5_instance 67 = .ok (.ishr, 1) := by decide +kernel
theorem dX5_instance_68 : decode cX5_instance 68 = .ok (.iaload, 1) := by decide +kernel
theorem dX5_instance_69 : decode cX5_instance 69 = .ok (.goto 4, 3) := by decide +kernel
theorem dX5_instance_72 : decode cX5_instance 72 = .ok (.iconst 1, 1) := by decide +kernel
theorem dX5_instance_73 : decode cX5_instance 73 = .ok (.iadd, 1) := by decide +kernel
theorem dX5_instance_74 : decode cX5_instance 74 = .ok (.istore 5, 2) := by decide +kernel
theorem dX5_instance_76 : decode cX5_instance 76 = .ok (.iinc 6 1, 3) := by decide +kernel
theorem dX5_instance_79 : decode cX5_instance 79 = .ok (.goto (-73), 3) := by decide +kernel
theorem dX5_instance_82 : decode cX5_instance 82 = .ok (.iload 5, 2) := by decide +kernel
theorem dX5_instance_84 : decode cX5_instance 84 = .ok (.bipush 80, 2) := by decide +kernel
theorem dX5_instance_86 : decode cX5_instance 86 = .ok (.if_icmp .le 5, 3) := by decide +kernel
theorem dX5_instance_89 : decode cX5_instance 89 = .ok (.aconst_null, 1) := by decide +kernel
theorem dX5_instance_90 : decode cX5_instance 90 = .ok (.areturn, 1) := by decide +kernel
theorem dX5_instance_91 : decode cX5_instance 91 = .ok (.iload 5, 2) := by decide +kernel
theorem dX5_instance_93 : decode cX5_instance 93 = .ok (.newarray .int, 2) := by decide +kernel
theorem dX5_instance_95 : decode cX5_instance 95 = .ok (.astore 6, 2) := by decide +kernel
theorem dX5_instance_97 : decode cX5_instance 97 = .ok (.iconst 0, 1) := by decide +kernel
theorem dX5_instance_98 : decode cX5_instance 98 = .ok (.istore 7, 2) := by decide +kernel
theorem dX5_instance_100 : decode cX5_instance 100 = .ok (.iload_n 2, 1) := by decide +kernel
theorem dX5_instance_101 : decode cX5_instance 101 = .ok (.istore 8, 2) := by decide +kernel
theorem dX5_instance_103 : decode cX5_instance 103 = .ok (.iload 8, 2) := by decide +kernel
theorem dX5_instance_105 : decode cX5_instance 105 = .ok (.iload_n 3, 1) := by decide +kernel
theorem dX5_instance_106 : decode cX5_instance 106 = .ok (.if_icmp .ge 130, 3) := by decide +kernel
theorem dX5_instance_109 : decode cX5_instance 109 = .ok (.iload 8, 2) := by decide +kernel
theorem dX5_instance_111 : decode cX5_instance 111 = .ok (.aload_n 1, 1) := by decide +kernel
theorem dX5_instance_112 : decode cX5_instance 112 = .ok (.arraylength, 1) := by decide +kernel
theorem dX5_instance_113 : decode cX5_instance 113 = .ok (.if_icmp .ge 123, 3) := by decide +kernel
theorem dX5_instance_116 : decode cX5_instance 116 = .ok (.iload 7, 2) := by decide +kernel
theorem dX5_instance_118 : decode cX5_instance 118 = .ok (.iload 5, 2) := by decide +kernel
theorem dX5_instance_120 : decode cX5_instance 120 = .ok (.if_icmp .ge 116, 3) := by decide +kernel
theorem dX5_instance_123 : decode cX5_instance 123 = .ok (.aload_n 1, 1) := by decide +kernel
theorem dX5_instance_124 : decode cX5_instance 124 = .ok (.iload 8, 2) := by decide +kernel
theorem dX5_instance_126 : decode cX5_instance 126 = .ok (.iaload, 1) := by decide +kernel
theorem dX5_instance_127 : decode cX5_instance 127 = .ok (.bipush 15, 2) := by decide +kernel
theorem dX5_instance_129 : decode cX5_instance 129 = .ok (.iand, 1) := by decide +kernel
theorem dX5_instance_130 : decode cX5_instance 130 = .ok (.bipush 10, 2) := by decide +kernel
theorem dX5_instance_132 : decode cX5_instance 132 = .ok (.if_icmp .ne 13, 3) := by decide +kernel
theorem dX5_instance_135 : decode cX5_instance 135 = .ok (.aload_n 1, 1) := by decide +kernel
theorem dX5_instance_136 : decode cX5_instance 136 = .ok (.iload 8, 2) := by decide +kernel
theorem dX5_instance_138 : decode cX5_instance 138 = .ok (.iaload, 1) := by decide +kernel
theorem dX5_instance_139 : decode cX5_instance 139 = .ok (.bipush 15, 2) := by decide +kernel
theorem dX5_instance_141 : decode cX5_instance 141 = .ok (.ishr, 1) := by decide +kernel
theorem dX5_instance_142 : decode cX5_instance 142 = .ok (.goto 4, 3) := by decide +kernel
theorem dX5_instance_145 : decode cX5_instance 145 = .ok (.iconst (-1), 1) := by decide +kernel
theorem dX5_instance_146 : decode cX5_instance 146 = .ok (.istore 9, 2) := by decide +kernel
theorem dX5_instance_148 : decode cX5_instance 148 = .ok (.iload 9, 2) := by decide +kernel
theorem dX5_instance_150 : decode cX5_instance 150 = .ok (.ifCond .lt 50, 3) := by decide +kernel
theorem dX5_instance_153 : decode cX5_instance 153 = .ok (.iload 9, 2) := by decide +kernel
theorem dX5_instance_155 : decode cX5_instance 155 = .ok (.iload 4, 2) := by decide +kernel
theorem dX5_instance_157 : decode cX5_instance 157 = .ok (.if_icmp .ge 43, 3) := by decide +kernel
theorem dX5_instance_160 : decode cX5_instance 160 = .ok (.aload_n 0, 1) := by decide +kernel
theorem dX5_instance_161 : decode cX5_instance 161 = .ok (.getfield 41, 3) := by decide +kernel
theorem dX5_instance_164 : decode cX5_instance 164 = .ok (.aload_n 0, 1) := by decide +kernel
theorem dX5_instance_165 : decode cX5_instance 165 = .ok (.getfield 44, 3) := by decide +kernel
theorem dX5_instance_168 : decode cX5_instance 168 = .ok (.iload 9, 2) := by decide +kernel
theorem dX5_instance_170 : decode cX5_instance 170 = .ok (.iaload, 1) := by decide +kernel
theorem dX5_instance_171 : decode cX5_instance 171 = .ok (.aload 6, 2) := by decide +kernel
theorem dX5_instance_173 : decode cX5_instance 173 = .ok (.iload 7, 2) := by decide +kernel
theorem dX5_instance_175 : decode cX5_instance 175 = .ok (.aload_n 0, 1) := by decide +kernel
theorem dX5_instance_176 : decode cX5_instance 176 = .ok (.getfield 47, 3) := by decide +kernel
theorem dX5_instance_179 : decode cX5_instance 179 = .ok (.iload 9, 2) := by decide +kernel
theorem dX5_instance_181 : decode cX5_instance 181 = .ok (.iaload, 1) := by decide +kernel
theorem dX5_instance_182 : decode cX5_instance 182 = .ok (.invokestatic 279, 3) := by decide +kernel
theorem dX5_instance_185 : decode cX5_instance 185 = .ok (.iload 7, 2) := by decide +kernel
theorem dX5_instance_187 : decode cX5_instance 187 = .ok (.aload_n 0, 1) := by decide +kernel
theorem dX5_instance_188 : decode cX5_instance 188 = .ok (.getfield 47, 3) := by decide +kernel
theorem dX5_instance_191 : decode cX5_instance 191 = .ok (.iload 9, 2) := by decide +kernel
theorem dX5_instance_193 : decode cX5_instance 193 = .ok (.iaload, 1) := by decide +kernel
theorem dX5_instance_194 : decode cX5_instance 194 = .ok (.iadd, 1) := by decide +kernel
theorem dX5_instance_195 : decode cX5_instance 195 = .ok (.istore 7, 2) := by decide +kernel
theorem dX5_instance_197 : decode cX5_instance 197 = .ok (.goto 33, 3) := by decide +kernel
theorem dX5_instance_200 : decode cX5_instance 200 = .ok (.aload 6, 2) := by decide +kernel
theorem dX5_instance_202 : decode cX5_instance 202 = .ok (.iload 7, 2) := by decide +kernel
theorem dX5_instance_204 : decode cX5_instance 204 = .ok (.iload 9, 2) := by decide +kernel
theorem dX5_instance_206 : decode cX5_instance 206 = .ok (.ifCond .ge 10, 3) := by decide +kernel
theorem dX5_instance_209 : decode cX5_instance 209 = .ok (.aload_n 1, 1) := by decide +kernel
theorem dX5_instance_210 : decode cX5_instance 210 = .ok (.iload 8, 2) := by decide +kernel
theorem dX5_instance_212 : decode cX5_instance 212 = .ok (.iaload, 1) := by decide +kernel
theorem dX5_instance_213 : decode cX5_instance 213 = .ok (.goto 13, 3) := by decide +kernel
theorem dX5_instance_216 : decode cX5_instance 216 = .ok (.aload_n 1, 1) := by decide +kernel
theorem dX5_instance_217 : decode cX5_instance 217 = .ok (.iload 8, 2) := by decide +kernel
theorem dX5_instance_219 : decode cX5_instance 219 = .ok (.iaload, 1) := by decide +kernel
theorem dX5_instance_220 : decode cX5_instance 220 = .ok (.iload 4, 2) := by decide +kernel
theorem dX5_instance_222 : decode cX5_instance 222 = .ok (.bipush 15, 2) := by decide +kernel
theorem dX5_instance_224 : decode cX5_instance 224 = .ok (.ishl, 1) := by decide +kernel
theorem dX5_instance_225 : decode cX5_instance 225 = .ok (.isub, 1) := by decide +kernel
theorem dX5_instance_226 : decode cX5_instance 226 = .ok (.iastore, 1) := by decide +kernel
theorem dX5_instance_227 : decode cX5_instance 227 = .ok (.iinc 7 1, 3) := by decide +kernel
theorem dX5_instance_230 : decode cX5_instance 230 = .ok (.iinc 8 1, 3) := by decide +kernel
theorem dX5_instance_233 : decode cX5_instance 233 = .ok (.goto (-130), 3) := by decide +kernel
theorem dX5_instance_236 : decode cX5_instance 236 = .ok (.aload 6, 2) := by decide +kernel
theorem dX5_instance_238 : decode cX5_instance 238 = .ok (.areturn, 1) := by decide +kernel
def EX5_instance : List (Nat × Nat) := []
def EX5_opened : List (Nat × Nat) := [(7, 5), (290, 0), (291, 0)]
set_option maxHeartbeats 4000000 in
set_option maxRecDepth 20000 in
theorem uX5_instance (l : Launch) (dC : Nat → ClassId) (dI : Nat → Nat → Nat) (ca : Nat → ClassId) (base : Nat) (B : jF) (hB : jBok B) (hAp : jAp (dC, dI)) (hB7 : ∀ n G a H, B 7 n G a H ↔ jOb (dC, dI) 7 11 (F7 n G) a H) (hB280 : ∀ n G a H, B 280 n G a H ↔ jAr (dC, dI) (ca 1) (fun j z => -1 ≤ z.toInt) n a H) (hB290 : ∀ n G a H, B 290 n G a H ↔ jAr (dC, dI) (ca 1) (fun j z => 0 ≤ z.toInt ∧ z.toInt ≤ 3000) n a H) (hB291 : ∀ n G a H, B 291 n G a H ↔ jAr (dC, dI) (ca 1) (fun j z => 0 ≤ z.toInt ∧ z.toInt ≤ 3000) n a H) (G0 : jT) (H0 : Heap) (r0 : Nat) (r1 : Nat) (a2 : Int32) (a3 : Int32) (a4 : Int32) (n1 : Nat) (so : Nat) (n_so : Nat) (xf : Nat) (xt : Nat) (ff : Nat → Int32) (fx : Nat → Int32) (ft : Nat → Int32) (LC LS : Nat) : Met l yX5_instance (jw yX5_instance cX5_instance 10 (some (.array .int))) ({ frames := 1, cells := LC - H0.size, slots := LS - jTot H0, locals := 61 }) (va_Pc [.ref r0, .ref r1, .int a2, .int a3, .int a4] (fun U => U.heap = H0 ∧ jX B base G0 [] H0 ∧ jG dC dI ca base U ∧ G0 r1 = some (280, n1) ∧ G0 r0 = some (7, 0) ∧ G0 so = some (280, n_so) ∧ G0 xf = some (290, 13) ∧ G0 xt = some (291, 13) ∧ jP (dC, dI) G0 H0 [(r0, 7, 5, .ref so), (r0, 7, 6, .ref xf), (r0, 7, 7, .ref xt)] ∧ jMc (dC, dI) G0 H0 [(r1, 280, n1, ca 1, ff), (xf, 290, 13, ca 1, fx), (xt, 291, 13, ca 1, ft)] ∧ H0.size + 1 ≤ LC ∧ jTot H0 + 80 ≤ LS ∧ jTbk fx ft n_so a4.toInt ∧ n1 ≤ 80 ∧ 0 ≤ a2.toInt ∧ 0 ≤ a4.toInt ∧ a4.toInt ≤ 12 ∧ n_so ≤ 3000)) (jQx (S := Nat × jT) (fun v u => (v = .null ∨ (jRf u.2 280 u.1 v ∧ jNwv v H0)) ∧ u.1 ≤ 80) (fun u t => jRa (dC, dI) B base G0 u.2 EX5_instance H0 (1) (80) [] t.heap ∧ (jNk [0, 1, 2, 3, 4, 5, 6, 7, 8, 9, 10, 11, 12, 13, 14, 15, 16, 17, 175]) G0 u.2 ∧ jKe G0 u.2 H0 t.heap) (jA base)) (LC - H0.size) (LS - jTot H0) (jA base) := by
  refine Met.ofW (cc := cX5_instance) (maxL := 10) (ret := (some (.array .int))) (by decide) rfl ?_
  intro p e s m args below meth c s₁ Bd hml hv
  obtain ⟨rfl, hH0, hX, hG, hg_r1, hg_r0, hg_so, hg_xf, hg_xt, hP0, hM0, hLC0, hLS0, hp0, hp1, hp2, hp3, hp4, hp5⟩ := hv
  have hK := hG.1
  have hx := Bd.exec
  have hb := Bd.bytes
  have hr := Bd.returns
  have hts := atoms_spec (ws := (jw yX5_instance cX5_instance 10 (some (.array .int)))) Bd.pre
  have htw : ∀ w ∈ jWl, w.before _ s = true := fun w h => hts w (List.mem_cons_of_mem _ h)
  have hown : s.vm.findClass RX5 = some m.cls := findClass_of_methodNamed Bd.named
  have hlocks := Bd.notSynchronized
  obtain ⟨Q, hQ⟩ : ∃ Q, Q = MQ below (jQx (S := Nat × jT) (fun v u => (v = .null ∨ (jRf u.2 280 u.1 v ∧ jNwv v H0)) ∧ u.1 ≤ 80) (fun u t => jRa (dC, dI) B base G0 u.2 EX5_instance H0 (1) (80) [] t.heap ∧ (jNk [0, 1, 2, 3, 4, 5, 6, 7, 8, 9, 10, 11, 12, 13, 14, 15, 16, 17, 175]) G0 u.2 ∧ jKe G0 u.2 H0 t.heap) (jA base)) ([.ref r0, .ref r1, .int a2, .int a3, .int a4] : List Value).toArray s (LC - H0.size) (LS - jTot H0) (jA base) := ⟨_, rfl⟩
  rw [← hQ]
  have hl := lv_entry ([.ref r0, .ref r1, .int a2, .int a3, .int a4]) (n := 10) (Nat.le_of_ble_eq_true rfl)
  rw [lg_entry_eq]
  generalize (lg_sl ([.ref r0, .ref r1, .int a2, .int a3, .int a4]) ++ List.replicate (10 - (lg_sl ([.ref r0, .ref r1, .int a2, .int a3, .int a4])).length) Slot.unset).toArray = ls at hl ⊢
  have hl : lv_has ls 10 [(0, .ref r0), (1, .ref r1), (2, .int a2), (3, .int a3), (4, .int a4)] := hl
  generalize hR : (headSpec (jw yX5_instance cX5_instance 10 (some (.array .int))) ({ frames := 1, cells := LC - H0.size, slots := LS - jTot H0, locals := 61 })).room = R
  subst hH0
  have hh : jSt (dC, dI) B base G0 G0 EX5_instance s.heap 0 0 [(r0, 7, 5, .ref so), (r0, 7, 6, .ref xf), (r0, 7, 7, .ref xt)] [(r1, 280, n1, ca 1, ff), (xf, 290, 13, ca 1, fx), (xt, 291, 13, ca 1, ft)] [] s.heap [] := jSt.start hX hP0 hM0 jIs.nil
  clear hX hP0
  have hkm1 : ((-1) : Int32).toInt = (-1) := by decide
  have hk0 : (0 : Int32).toInt = 0 := by decide
  have hk1 : (1 : Int32).toInt = 1 := by decide
  have hk10 : (10 : Int32).toInt = 10 := by decide
  have hk15 : (15 : Int32).toInt = 15 := by decide
  have hk80 : (80 : Int32).toInt = 80 := by decide
  have hly_7_5 := htw (u_lay RX5 TX5 5) (jWc_wsX50 _ (u_in_lay (by decide)))
  have hly_7_6 := htw (u_lay RX5 TX5 6) (jWc_wsX50 _ (u_in_lay (by decide)))
  have hly_7_7 := htw (u_lay RX5 TX5 7) (jWc_wsX50 _ (u_in_lay (by decide)))
  have hlk_47 := (htw (.fieldLink RX5 47 "ProofServer$Kernel" "termSize" "[I") (jWr_5 _ (List.mem_of_getElem? (i := 0) rfl)))
  have hlk_41 := (htw (.fieldLink RX5 41 "ProofServer$Kernel" "source" "[I") (jWr_4 _ (List.mem_of_getElem? (i := 22) rfl)))
  have hlk_44 := (htw (.fieldLink RX5 44 "ProofServer$Kernel" "termFrom" "[I") (jWr_4 _ (List.mem_of_getElem? (i := 23) rfl)))
  have hrg_a2 := jb_rng a2
  have hrg_a3 := jb_rng a3
  have hrg_a4 := jb_rng a4
  have hbs : base ≤ s.heap.size := Nat.le_of_lt (Nat.lt_of_le_of_lt (hh.ab hg_r0).1 (hh.ab hg_r0).2)
  have hRc : R.cells = LC - s.heap.size := by rw [← hR]; rfl
  have hRs : R.slots = LS - jTot s.heap := by rw [← hR]; rfl
  have hkp : jKe G0 G0 s.heap s.heap := jKe.rf
  have hff := jNn1.of (hh.allP hB280 (by decide) 0 rfl)
  have hft := jNn0.of (hh.allP hB291 (by decide) 2 rfl)
  refine lv_iconst (v := 0) hx hb dX5_instance_0 (by decide) ?_
  refine lv_istore (lv' := [(5, .int 0), (0, .ref r0), (1, .ref r1), (2, .int a2), (3, .int a3), (4, .int a4)]) hx hb dX5_instance_1 hl (by decide) rfl (fun ls hl => ?_)
  refine lv_iload_n hx hb dX5_instance_3 rfl (lv_at hl 3 rfl) ?_
  refine lv_istore (lv' := [(6, .int a2), (5, .int 0), (0, .ref r0), (1, .ref r1), (2, .int a2), (3, .int a3), (4, .int a4)]) hx hb dX5_instance_4 hl (by decide) rfl (fun ls hl => ?_)
  have L6 : ∀ (N : Nat) (v5_1 : Int32) (v6_1 : Int32) (H_1 : Heap) (locs_1 : List Loc), jSt (dC, dI) B base G0 G0 EX5_instance s.heap 0 0 [(r0, 7, 5, .ref so), (r0, 7, 6, .ref xf), (r0, 7, 7, .ref xt)] [(r1, 280, n1, ca 1, ff), (xf, 290, 13, ca 1, fx), (xt, 291, 13, ca 1, ft)] [] H_1 locs_1 → jKe G0 G0 s.heap H_1 → (a2.toInt ≤ v6_1.toInt ∧ 0 ≤ v5_1.toInt ∧ v5_1.toInt ≤ 3000 * (v6_1.toInt - a2.toInt) ∧ (v6_1.toInt ≤ n1 ∨ v6_1.toInt = a2.toInt) ∧ jPqk ff ft a4.toInt a2.toInt v6_1.toInt v5_1.toInt) → (((n1 - v6_1.toInt).toNat : Int) : Int) < N → ∀ ls : Array Slot, lv_has ls 10 [(0, .ref r0), (1, .ref r1), (2, .int a2), (3, .int a3), (4, .int a4), (5, .int v5_1), (6, .int v6_1)] → W p l e R s m ([.ref r0, .ref r1, .int a2, .int a3, .int a4] : List Value).toArray below meth c H_1 locs_1 0 0 Q (F0 m 6 ls []) := by
    intro N
    induction N with
    | zero => intro v5_1 v6_1 H_1 locs_1 hh_1 hkp_1 hi_1 hm; exact absurd hm (by omega)
    | succ N L6 =>
      intro v5_1 v6_1 H_1 locs_1 hh_1 hkp_1 hi_1 hm_1 ls hl
      obtain ⟨hi_1_0, hi_1_1, hi_1_2, hi_1_3, hi_1_4⟩ := hi_1
      refine lv_iload hx hb dX5_instance_6 (lv_at hl 6 rfl) ?_
      refine lv_iload_n hx hb dX5_instance_8 rfl (lv_at hl 3 rfl) ?_
      have C82 : ∀ (H_2 : Heap) (locs_2 : List Loc), jSt (dC, dI) B base G0 G0 EX5_instance s.heap 0 0 [(r0, 7, 5, .ref so), (r0, 7, 6, .ref xf), (r0, 7, 7, .ref xt)] [(r1, 280, n1, ca 1, ff), (xf, 290, 13, ca 1, fx), (xt, 291, 13, ca 1, ft)] [] H_2 locs_2 → jKe G0 G0 s.heap H_2 → (a3.toInt ≤ v6_1.toInt ∨ n1 ≤ v6_1.toInt) → ∀ ls : Array Slot, lv_has ls 10 [(0, .ref r0), (1, .ref r1), (2, .int a2), (3, .int a3), (4, .int a4), (5, .int v5_1), (6, .int v6_1)] → W p l e R s m ([.ref r0, .ref r1, .int a2, .int a3, .int a4] : List Value).toArray below meth c H_2 locs_2 0 0 Q (F0 m 82 ls []) := by
        intro  H_2 locs_2 hh_2 hkp_2 hi_2 ls hl
        refine lv_iload hx hb dX5_instance_82 (lv_at hl 5 rfl) ?_
        refine lv_bipush (v := 80) hx hb dX5_instance_84 (by decide) ?_
        refine lv_icmp_le (tgt := 91) hx hb dX5_instance_86 (by decide) (fun c_3 => ?_) (fun c_3 => ?_)
        · skip
          have c_3' : v5_1.toInt ≤ 80 := jb_le (rfl) ((by decide)) c_3
          refine lv_iload hx hb dX5_instance_91 (lv_at hl 5 rfl) ?_
          have hsz_4 := hh_2.2.2.2.2.2.1
          have htt_4 := hh_2.2.2.2.2.2.2.1
          have hsy_4 : s.heap.size ≤ H_2.size := hh_2.1.1
          refine j7_newiR hx hb hK hh_2 hB (atype := .int) (ty := .int) (htw (.arrayClass .int) (jWr_3 _ (List.mem_of_getElem? (i := 20) rfl))) rfl rfl (fun _ h => h) 1 rfl (by decide) (x := v5_1.toInt) rfl (by omega) (by rw [hRc]; omega) (by rw [hRs]; omega) dX5_instance_93 (fun H_4 hfr_4 hnr_4 hraw_4 hh_4 => ?_)
          have hke_4 : jKe G0 G0 H_2 H_4 := jKe.raw hfr_4
          have hbr_4 : base ≤ H_2.size := Nat.le_trans hbs hsy_4
          obtain ⟨nq_4, hnq_4⟩ : ∃ q : Nat, q = (v5_1.toInt).toNat := ⟨_, rfl⟩
          rw [← hnq_4] at hraw_4 hh_4 ⊢
          clear hh_2
          have hkp_5 := hkp_2.tr hke_4
          refine lv_astore (lv' := [(6, .ref H_2.size), (0, .ref r0), (1, .ref r1), (2, .int a2), (3, .int a3), (4, .int a4), (5, .int v5_1)]) hx hb dX5_instance_95 hl (by decide) rfl (fun ls hl => ?_)
          refine lv_iconst (v := 0) hx hb dX5_instance_97 (by decide) ?_
          refine lv_istore (lv' := [(7, .int 0), (6, .ref H_2.size), (0, .ref r0), (1, .ref r1), (2, .int a2), (3, .int a3), (4, .int a4), (5, .int v5_1)]) hx hb dX5_instance_98 hl (by decide) rfl (fun ls hl => ?_)
          refine lv_iload_n hx hb dX5_instance_100 rfl (lv_at hl 4 rfl) ?_
          refine lv_istore (lv' := [(8, .int a2), (7, .int 0), (6, .ref H_2.size), (0, .ref r0), (1, .ref r1), (2, .int a2), (3, .int a3), (4, .int a4), (5, .int v5_1)]) hx hb dX5_instance_101 hl (by decide) rfl (fun ls hl => ?_)
          have L103 : ∀ (N : Nat) (fq_6 : Nat → Int32) (v7_6 : Int32) (v8_6 : Int32) (H_6 : Heap) (locs_6 : List Loc), jSt (dC, dI) B base G0 G0 EX5_instance s.heap (0 + 1) (0 + nq_4) [(r0, 7, 5, .ref so), (r0, 7, 6, .ref xf), (r0, 7, 7, .ref xt)] [(r1, 280, n1, ca 1, ff), (xf, 290, 13, ca 1, fx), (xt, 291, 13, ca 1, ft)] [] H_6 locs_6 → va_at (dC, dI) vwCl (H_2.size, .inl (ca 1, nq_4, .inl fq_6)) H_6 → jKe G0 G0 s.heap H_6 → (a2.toInt ≤ v8_6.toInt ∧ (v8_6.toInt ≤ n1 ∨ v8_6.toInt = a2.toInt) ∧ 0 ≤ v7_6.toInt ∧ v7_6.toInt ≤ v5_1.toInt ∧ jPqk ff ft a4.toInt a2.toInt v8_6.toInt v7_6.toInt ∧ jFp fq_6) → (((n1 - v8_6.toInt).toNat : Int) : Int) < N → ∀ ls : Array Slot, lv_has ls 10 [(0, .ref r0), (1, .ref r1), (2, .int a2), (3, .int a3), (4, .int a4), (5, .int v5_1), (6, .ref H_2.size), (7, .int v7_6), (8, .int v8_6)] → W p l e R s m ([.ref r0, .ref r1, .int a2, .int a3, .int a4] : List Value).toArray below meth c H_6 locs_6 (0 + 1) (0 + nq_4) Q (F0 m 103 ls []) := by
            intro N
            induction N with
            | zero => intro fq_6 v7_6 v8_6 H_6 locs_6 hh_6 hraw_6 hkp_6 hi_6 hm; exact absurd hm (by omega)
            | succ N L103 =>
              intro fq_6 v7_6 v8_6 H_6 locs_6 hh_6 hraw_6 hkp_6 hi_6 hm_6 ls hl
              obtain ⟨hi_6_0, hi_6_1, hi_6_2, hi_6_3, hi_6_4, hi_6_5⟩ := hi_6
              refine lv_iload hx hb dX5_instance_103 (lv_at hl 8 rfl) ?_
              refine lv_iload_n hx hb dX5_instance_105 rfl (lv_at hl 3 rfl) ?_
              refine lv_icmp_ge (tgt := 236) hx hb dX5_instance_106 (by decide) (fun c_7 => ?_) (fun c_7 => ?_)
              · skip
                have c_7' : v8_6.toInt ≥ a3.toInt := jb_ge (rfl) (rfl) c_7
                refine lv_aload hx hb dX5_instance_236 (lv_at hl 6 rfl) ?_
                have hsz_8 := hh_6.2.2.2.2.2.1
                have htt_8 := hh_6.2.2.2.2.2.2.1
                refine W.room (fun hrc_8 hrs_8 => ?_)
                refine W.widen (k := LC - s.heap.size) (n := LS - jTot s.heap) (by omega) (by omega) ?_
                rw [hQ]
                have hle_9 : jLe G0 (va_up G0 H_2.size (some (280, nq_4))) := jLe.typ hnr_4
                have hh_9 := hh_6.typ (k := 280) (n := nq_4) hB hnr_4 hbr_4 hraw_6.lt (jAr.of hB280 hraw_6 (fun j _ => hi_6_5 j))
                have hgn_9 : (va_up G0 H_2.size (some (280, nq_4))) H_2.size = some (280, nq_4) := jUp_self
                have hN_9 : (jNk [0, 1, 2, 3, 4, 5, 6, 7, 8, 9, 10, 11, 12, 13, 14, 15, 16, 17, 175]) G0 (va_up G0 H_2.size (some (280, nq_4))) := jNk.new (by decide)
                have hNn_9 : (jNk [0, 1, 2, 3, 4, 5, 6, 7, 8, 9, 10, 11, 12, 13, 14, 15, 16, 17, 175]) G0 (va_up G0 H_2.size (some (280, nq_4))) := (jNk.rf).tr hN_9
                have hkp_10 := hkp_6.typn (t := some (280, nq_4)) hsy_4
                exact W.aret (v := .ref H_2.size) hx hb hr (Or.inr ⟨_, rfl⟩) (Or.inr ⟨_, rfl⟩) (fun t ht hW => ⟨⟨.ref H_2.size, (nq_4, (va_up G0 H_2.size (some (280, nq_4)))), rfl, ⟨Or.inr ⟨⟨_, rfl, hgn_9⟩, ⟨_, rfl, hsy_4⟩⟩, by (try dsimp only); first | omega | rfl | assumption | fail⟩, ⟨hh_9.ra (by first | omega | (simp only; omega)) (by first | omega | (simp only; omega)) (M1 := []) [] rfl ht, hNn_9, by rw [ht]; exact hkp_10⟩⟩, by rw [ht]; try exact hh_9.1.1, fun q h9 hq => by rw [ht]; try exact hh_9.1.2.1 q h9 hq⟩) hh_9.1.2.2 dX5_instance_238
              · skip
                have c_7' : v8_6.toInt < a3.toInt := jb_ge_n (rfl) (rfl) c_7
                refine lv_iload hx hb dX5_instance_109 (lv_at hl 8 rfl) ?_
                refine lv_aload_n hx hb dX5_instance_111 rfl (lv_at hl 1 rfl) ?_
                refine j7_len hx hb hK hh_6 hB280 1 rfl (by decide) hg_r1 (by omega) dX5_instance_112 (fun z_11 hz_11 => ?_)
                refine lv_icmp_ge (tgt := 236) hx hb dX5_instance_113 (by decide) (fun c_12 => ?_) (fun c_12 => ?_)
                · skip
                  have c_12' : v8_6.toInt ≥ z_11.toInt := jb_ge (rfl) (rfl) c_12
                  refine lv_aload hx hb dX5_instance_236 (lv_at hl 6 rfl) ?_
                  have hsz_13 := hh_6.2.2.2.2.2.1
                  have htt_13 := hh_6.2.2.2.2.2.2.1
                  refine W.room (fun hrc_13 hrs_13 => ?_)
                  refine W.widen (k := LC - s.heap.size) (n := LS - jTot s.heap) (by omega) (by omega) ?_
                  rw [hQ]
                  have hle_14 : jLe G0 (va_up G0 H_2.size (some (280, nq_4))) := jLe.typ hnr_4
                  have hh_14 := hh_6.typ (k := 280) (n := nq_4) hB hnr_4 hbr_4 hraw_6.lt (jAr.of hB280 hraw_6 (fun j _ => hi_6_5 j))
                  have hgn_14 : (va_up G0 H_2.size (some (280, nq_4))) H_2.size = some (280, nq_4) := jUp_self
                  have hN_14 : (jNk [0, 1, 2, 3, 4, 5, 6, 7, 8, 9, 10, 11, 12, 13, 14, 15, 16, 17, 175]) G0 (va_up G0 H_2.size (some (280, nq_4))) := jNk.new (by decide)
                  have hNn_14 : (jNk [0, 1, 2, 3, 4, 5, 6, 7, 8, 9, 10, 11, 12, 13, 14, 15, 16, 17, 175]) G0 (va_up G0 H_2.size (some (280, nq_4))) := (jNk.rf).tr hN_14
                  have hkp_15 := hkp_6.typn (t := some (280, nq_4)) hsy_4
                  exact W.aret (v := .ref H_2.size) hx hb hr (Or.inr ⟨_, rfl⟩) (Or.inr ⟨_, rfl⟩) (fun t ht hW => ⟨⟨.ref H_2.size, (nq_4, (va_up G0 H_2.size (some (280, nq_4)))), rfl, ⟨Or.inr ⟨⟨_, rfl, hgn_14⟩, ⟨_, rfl, hsy_4⟩⟩, by (try dsimp only); first | omega | rfl | assumption | fail⟩, ⟨hh_14.ra (by first | omega | (simp only; omega)) (by first | omega | (simp only; omega)) (M1 := []) [] rfl ht, hNn_14, by rw [ht]; exact hkp_15⟩⟩, by rw [ht]; try exact hh_14.1.1, fun q h9 hq => by rw [ht]; try exact hh_14.1.2.1 q h9 hq⟩) hh_14.1.2.2 dX5_instance_238
                · skip
                  have c_12' : v8_6.toInt < z_11.toInt := jb_ge_n (rfl) (rfl) c_12
                  refine lv_iload hx hb dX5_instance_116 (lv_at hl 7 rfl) ?_
                  refine lv_iload hx hb dX5_instance_118 (lv_at hl 5 rfl) ?_
                  refine lv_icmp_ge (tgt := 236) hx hb dX5_instance_120 (by decide) (fun c_16 => ?_) (fun c_16 => ?_)
                  · skip
                    have c_16' : v7_6.toInt ≥ v5_1.toInt := jb_ge (rfl) (rfl) c_16
                    refine lv_aload hx hb dX5_instance_236 (lv_at hl 6 rfl) ?_
                    have hsz_17 := hh_6.2.2.2.2.2.1
                    have htt_17 := hh_6.2.2.2.2.2.2.1
                    refine W.room (fun hrc_17 hrs_17 => ?_)
                    refine W.widen (k := LC - s.heap.size) (n := LS - jTot s.heap) (by omega) (by omega) ?_
                    rw [hQ]
                    have hle_18 : jLe G0 (va_up G0 H_2.size (some (280, nq_4))) := jLe.typ hnr_4
                    have hh_18 := hh_6.typ (k := 280) (n := nq_4) hB hnr_4 hbr_4 hraw_6.lt (jAr.of hB280 hraw_6 (fun j _ => hi_6_5 j))
                    have hgn_18 : (va_up G0 H_2.size (some (280, nq_4))) H_2.size = some (280, nq_4) := jUp_self
                    have hN_18 : (jNk [0, 1, 2, 3, 4, 5, 6, 7, 8, 9, 10, 11, 12, 13, 14, 15, 16, 17, 175]) G0 (va_up G0 H_2.size (some (280, nq_4))) := jNk.new (by decide)
                    have hNn_18 : (jNk [0, 1, 2, 3, 4, 5, 6, 7, 8, 9, 10, 11, 12, 13, 14, 15, 16, 17, 175]) G0 (va_up G0 H_2.size (some (280, nq_4))) := (jNk.rf).tr hN_18
                    have hkp_19 := hkp_6.typn (t := some (280, nq_4)) hsy_4
                    exact W.aret (v := .ref H_2.size) hx hb hr (Or.inr ⟨_, rfl⟩) (Or.inr ⟨_, rfl⟩) (fun t ht hW => ⟨⟨.ref H_2.size, (nq_4, (va_up G0 H_2.size (some (280, nq_4)))), rfl, ⟨Or.inr ⟨⟨_, rfl, hgn_18⟩, ⟨_, rfl, hsy_4⟩⟩, by (try dsimp only); first | omega | rfl | assumption | fail⟩, ⟨hh_18.ra (by first | omega | (simp only; omega)) (by first | omega | (simp only; omega)) (M1 := []) [] rfl ht, hNn_18, by rw [ht]; exact hkp_19⟩⟩, by rw [ht]; try exact hh_18.1.1, fun q h9 hq => by rw [ht]; try exact hh_18.1.2.1 q h9 hq⟩) hh_18.1.2.2 dX5_instance_238
                  · skip
                    have c_16' : v7_6.toInt < v5_1.toInt := jb_ge_n (rfl) (rfl) c_16
                    refine lv_aload_n hx hb dX5_instance_123 rfl (lv_at hl 1 rfl) ?_
                    refine lv_iload hx hb dX5_instance_124 (lv_at hl 8 rfl) ?_
                    refine j7_ialdM hx hb hK hh_6 hB280 1 rfl (by decide) hg_r1 (x := v8_6.toInt) (rfl) (by omega) (j := 0) rfl dX5_instance_126 (fun z_20 ez_20 (hz_20 : -1 ≤ z_20.toInt) => ?_)
                    have hqz_20 : z_20.toInt = jSo ff (v8_6.toInt) := by unfold jSo; rw [ez_20]
                    refine lv_bipush (v := 15) hx hb dX5_instance_127 (by decide) ?_
                    refine lv_iand hx hb dX5_instance_129 ?_
                    refine lv_topi (fun z_21 ez_21 => ?_)
                    have hz_21 : 0 ≤ z_21.toInt ∧ z_21.toInt ≤ 15 := by rw [ez_21]; exact jb_and z_20 (m := 15) (k := 4) (by decide) (by decide)
                    have hbz_21 : z_21.toInt = z_20.toInt % 16 := by rw [ez_21, jb_and15]
                    refine lv_bipush (v := 10) hx hb dX5_instance_130 (by decide) ?_
                    refine lv_icmp_ne (tgt := 145) hx hb dX5_instance_132 (by decide) (fun c_22 => ?_) (fun c_22 => ?_)
                    · skip
                      have c_22' : z_21.toInt ≠ 10 := jb_ne (rfl) ((by decide)) c_22
                      refine lv_iconst (v := (-1)) hx hb dX5_instance_145 (by decide) ?_
                      refine lv_istore (lv' := [(9, .int (-1)), (0, .ref r0), (1, .ref r1), (2, .int a2), (3, .int a3), (4, .int a4), (5, .int v5_1), (6, .ref H_2.size), (7, .int v7_6), (8, .int v8_6)]) hx hb dX5_instance_146 hl (by decide) rfl (fun ls hl => ?_)
                      refine lv_iload hx hb dX5_instance_148 (lv_at hl 0 rfl) ?_
                      refine lv_if_lt (tgt := 200) hx hb dX5_instance_150 (by decide) (fun c_23 => ?_) (fun c_23 => ?_)
                      · skip
                        refine lv_aload hx hb dX5_instance_200 (lv_at hl 7 rfl) ?_
                        refine lv_iload hx hb dX5_instance_202 (lv_at hl 8 rfl) ?_
                        refine lv_iload hx hb dX5_instance_204 (lv_at hl 0 rfl) ?_
                        refine lv_if_ge (tgt := 216) hx hb dX5_instance_206 (by decide) (fun c_24 => ?_) (fun c_24 => ?_)
                        · skip
                          exact absurd c_24 (by decide)
                        · skip
                          refine lv_aload_n hx hb dX5_instance_209 rfl (lv_at hl 2 rfl) ?_
                          refine lv_iload hx hb dX5_instance_210 (lv_at hl 9 rfl) ?_
                          refine j7_ialdM hx hb hK hh_6 hB280 1 rfl (by decide) hg_r1 (x := v8_6.toInt) (rfl) (by omega) (j := 0) rfl dX5_instance_212 (fun z_25 ez_25 (hz_25 : -1 ≤ z_25.toInt) => ?_)
                          have hqz_25 : z_25.toInt = jSo ff (v8_6.toInt) := by unfold jSo; rw [ez_25]
                          refine lv_goto (tgt := 226) hx hb dX5_instance_213 (by decide) ?_
                          refine j7_iastR hx hb hK hh_6 hB hraw_6 hnr_4 hbr_4 1 rfl (x := v7_6.toInt) (rfl) (by omega) dX5_instance_226 (fun H_26 locs_26 hraw_26 hr_26 hh_26 => ?_)
                          have hkp_27 := hkp_6.st hsy_4 hr_26
                          clear hr_26
                          clear hh_6
                          obtain ⟨z_28, ez_28⟩ : ∃ y : Int32, y = v7_6 + 1 := ⟨_, rfl⟩
                          refine lv_iinc (v := z_28) (lv' := [(7, .int z_28), (9, .int (-1)), (0, .ref r0), (1, .ref r1), (2, .int a2), (3, .int a3), (4, .int a4), (5, .int v5_1), (6, .ref H_2.size), (8, .int v8_6)]) hx hb dX5_instance_227 hl (k := 8) rfl (by rw [ez_28]; rfl) (by decide) rfl (fun ls hl => ?_)
                          have hz_28 : z_28.toInt = v7_6.toInt + 1 := by rw [ez_28]; exact jb_iadd2 (rfl) (by decide) (by omega)
                          obtain ⟨z_29, ez_29⟩ : ∃ y : Int32, y = v8_6 + 1 := ⟨_, rfl⟩
                          refine lv_iinc (v := z_29) (lv' := [(8, .int z_29), (7, .int z_28), (9, .int (-1)), (0, .ref r0), (1, .ref r1), (2, .int a2), (3, .int a3), (4, .int a4), (5, .int v5_1), (6, .ref H_2.size)]) hx hb dX5_instance_230 hl (k := 9) rfl (by rw [ez_29]; rfl) (by decide) rfl (fun ls hl => ?_)
                          have hz_29 : z_29.toInt = v8_6.toInt + 1 := by rw [ez_29]; exact jb_iadd2 (rfl) (by decide) (by omega)
                          refine lv_goto (tgt := 103) hx hb dX5_instance_233 (by decide) ?_
                          refine W.tight (c2 := (0 + 1)) (n2 := (0 + nq_4)) hh_26.2.2.2.2.2.1 hh_26.2.2.2.2.2.2.1 ?_
                          exact L103 (upd fq_6 (v7_6.toInt).toNat z_25) z_28 z_29 _ _ hh_26 (hraw_26) (hkp_27) (by refine ⟨by omega, by omega, by omega, by omega, ?_, ?_⟩; (first | exact hi_6_4.toldq (zz_none) (by omega) (by omega) (by omega) (by omega) (by omega) | exact hi_6_4.one (by omega) (by omega) (by omega)); (first | exact hi_6_5.cpy (zz_none) | exact hi_6_5.put (by omega))) (by omega) _ (lv_sub hl [3, 4, 5, 6, 7, 8, 9, 1, 0] rfl)
                      · skip
                        exact absurd c_23 (by decide)
                    · skip
                      have c_22' : z_21.toInt = 10 := jb_ne_n (rfl) ((by decide)) c_22
                      refine lv_aload_n hx hb dX5_instance_135 rfl (lv_at hl 1 rfl) ?_
                      refine lv_iload hx hb dX5_instance_136 (lv_at hl 8 rfl) ?_
                      refine j7_ialdM hx hb hK hh_6 hB280 1 rfl (by decide) hg_r1 (x := v8_6.toInt) (rfl) (by omega) (j := 0) rfl dX5_instance_138 (fun z_30 ez_30 (hz_30 : -1 ≤ z_30.toInt) => ?_)
                      have hqz_30 : z_30.toInt = jSo ff (v8_6.toInt) := by unfold jSo; rw [ez_30]
                      refine lv_bipush (v := 15) hx hb dX5_instance_139 (by decide) ?_
                      refine lv_ishr hx hb dX5_instance_141 ?_
                      refine lv_topi (fun z_31 ez_31 => ?_)
                      have hz_31 : z_31.toInt = z_30.toInt / 2 ^ 15 := by rw [ez_31]; exact jb_ishr 15 (rfl) (by decide)
                      refine lv_goto (tgt := 146) hx hb dX5_instance_142 (by decide) ?_
                      refine lv_istore (lv' := [(9, .int z_31), (0, .ref r0), (1, .ref r1), (2, .int a2), (3, .int a3), (4, .int a4), (5, .int v5_1), (6, .ref H_2.size), (7, .int v7_6), (8, .int v8_6)]) hx hb dX5_instance_146 hl (by decide) rfl (fun ls hl => ?_)
                      refine lv_iload hx hb dX5_instance_148 (lv_at hl 0 rfl) ?_
                      refine lv_if_lt (tgt := 200) hx hb dX5_instance_150 (by decide) (fun c_32 => ?_) (fun c_32 => ?_)
                      · skip
                        have c_32' : z_31.toInt < 0 := jb_lt (rfl) ((by decide)) c_32
                        exact (by omega : False).elim
                      · skip
                        have c_32' : z_31.toInt ≥ 0 := jb_lt_n (rfl) ((by decide)) c_32
                        refine lv_iload hx hb dX5_instance_153 (lv_at hl 0 rfl) ?_
                        refine lv_iload hx hb dX5_instance_155 (lv_at hl 5 rfl) ?_
                        refine lv_icmp_ge (tgt := 200) hx hb dX5_instance_157 (by decide) (fun c_33 => ?_) (fun c_33 => ?_)
                        · skip
                          have c_33' : z_31.toInt ≥ a4.toInt := jb_ge (rfl) (rfl) c_33
                          refine lv_aload hx hb dX5_instance_200 (lv_at hl 7 rfl) ?_
                          refine lv_iload hx hb dX5_instance_202 (lv_at hl 8 rfl) ?_
                          refine lv_iload hx hb dX5_instance_204 (lv_at hl 0 rfl) ?_
                          refine lv_if_ge (tgt := 216) hx hb dX5_instance_206 (by decide) (fun c_34 => ?_) (fun c_34 => ?_)
                          · skip
                            have c_34' : z_31.toInt ≥ 0 := jb_ge (rfl) ((by decide)) c_34
                            refine lv_aload_n hx hb dX5_instance_216 rfl (lv_at hl 2 rfl) ?_
                            refine lv_iload hx hb dX5_instance_217 (lv_at hl 9 rfl) ?_
                            refine j7_ialdM hx hb hK hh_6 hB280 1 rfl (by decide) hg_r1 (x := v8_6.toInt) (rfl) (by omega) (j := 0) rfl dX5_instance_219 (fun z_35 ez_35 (hz_35 : -1 ≤ z_35.toInt) => ?_)
                            have hqz_35 : z_35.toInt = jSo ff (v8_6.toInt) := by unfold jSo; rw [ez_35]
                            have hrg9 := jb_rng z_35
                            refine lv_iload hx hb dX5_instance_220 (lv_at hl 5 rfl) ?_
                            refine lv_bipush (v := 15) hx hb dX5_instance_222 (by decide) ?_
                            refine lv_ishl hx hb dX5_instance_224 ?_
                            refine lv_topi (fun z_36 ez_36 => ?_)
                            have hbz_36 := jb_shlc 15 32768 ez_36 (by decide) (by decide) (by omega) (by omega)
                            refine lv_isub hx hb dX5_instance_225 ?_
                            refine lv_topi (fun z_37 ez_37 => ?_)
                            have hz_37 : z_37.toInt = z_35.toInt - z_36.toInt := by rw [ez_37]; exact jb_isub2 (rfl) (rfl) (by omega)
                            refine j7_iastR hx hb hK hh_6 hB hraw_6 hnr_4 hbr_4 1 rfl (x := v7_6.toInt) (rfl) (by omega) dX5_instance_226 (fun H_38 locs_38 hraw_38 hr_38 hh_38 => ?_)
                            have hkp_39 := hkp_6.st hsy_4 hr_38
                            clear hr_38
                            clear hh_6
                            obtain ⟨z_40, ez_40⟩ : ∃ y : Int32, y = v7_6 + 1 := ⟨_, rfl⟩
                            refine lv_iinc (v := z_40) (lv' := [(7, .int z_40), (9, .int z_31), (0, .ref r0), (1, .ref r1), (2, .int a2), (3, .int a3), (4, .int a4), (5, .int v5_1), (6, .ref H_2.size), (8, .int v8_6)]) hx hb dX5_instance_227 hl (k := 8) rfl (by rw [ez_40]; rfl) (by decide) rfl (fun ls hl => ?_)
                            have hz_40 : z_40.toInt = v7_6.toInt + 1 := by rw [ez_40]; exact jb_iadd2 (rfl) (by decide) (by omega)
                            obtain ⟨z_41, ez_41⟩ : ∃ y : Int32, y = v8_6 + 1 := ⟨_, rfl⟩
                            refine lv_iinc (v := z_41) (lv' := [(8, .int z_41), (7, .int z_40), (9, .int z_31), (0, .ref r0), (1, .ref r1), (2, .int a2), (3, .int a3), (4, .int a4), (5, .int v5_1), (6, .ref H_2.size)]) hx hb dX5_instance_230 hl (k := 9) rfl (by rw [ez_41]; rfl) (by decide) rfl (fun ls hl => ?_)
                            have hz_41 : z_41.toInt = v8_6.toInt + 1 := by rw [ez_41]; exact jb_iadd2 (rfl) (by decide) (by omega)
                            refine lv_goto (tgt := 103) hx hb dX5_instance_233 (by decide) ?_
                            refine W.tight (c2 := (0 + 1)) (n2 := (0 + nq_4)) hh_38.2.2.2.2.2.1 hh_38.2.2.2.2.2.2.1 ?_
                            exact L103 (upd fq_6 (v7_6.toInt).toNat z_37) z_40 z_41 _ _ hh_38 (hraw_38) (hkp_39) (by refine ⟨by omega, by omega, by omega, by omega, ?_, ?_⟩; (first | exact hi_6_4.toldq (zz_none) (by omega) (by omega) (by omega) (by omega) (by omega) | exact hi_6_4.one (by omega) (by omega) (by omega)); (first | exact hi_6_5.cpy (zz_none) | exact hi_6_5.put (by omega))) (by omega) _ (lv_sub hl [3, 4, 5, 6, 7, 8, 9, 1, 0] rfl)
                          · skip
                            have c_34' : z_31.toInt < 0 := jb_ge_n (rfl) ((by decide)) c_34
                            refine lv_aload_n hx hb dX5_instance_209 rfl (lv_at hl 2 rfl) ?_
                            refine lv_iload hx hb dX5_instance_210 (lv_at hl 9 rfl) ?_
                            refine j7_ialdM hx hb hK hh_6 hB280 1 rfl (by decide) hg_r1 (x := v8_6.toInt) (rfl) (by omega) (j := 0) rfl dX5_instance_212 (fun z_42 ez_42 (hz_42 : -1 ≤ z_42.toInt) => ?_)
                            have hqz_42 : z_42.toInt = jSo ff (v8_6.toInt) := by unfold jSo; rw [ez_42]
                            refine lv_goto (tgt := 226) hx hb dX5_instance_213 (by decide) ?_
                            refine j7_iastR hx hb hK hh_6 hB hraw_6 hnr_4 hbr_4 1 rfl (x := v7_6.toInt) (rfl) (by omega) dX5_instance_226 (fun H_43 locs_43 hraw_43 hr_43 hh_43 => ?_)
                            have hkp_44 := hkp_6.st hsy_4 hr_43
                            clear hr_43
                            clear hh_6
                            obtain ⟨z_45, ez_45⟩ : ∃ y : Int32, y = v7_6 + 1 := ⟨_, rfl⟩
                            refine lv_iinc (v := z_45) (lv' := [(7, .int z_45), (9, .int z_31), (0, .ref r0), (1, .ref r1), (2, .int a2), (3, .int a3), (4, .int a4), (5, .int v5_1), (6, .ref H_2.size), (8, .int v8_6)]) hx hb dX5_instance_227 hl (k := 8) rfl (by rw [ez_45]; rfl) (by decide) rfl (fun ls hl => ?_)
                            have hz_45 : z_45.toInt = v7_6.toInt + 1 := by rw [ez_45]; exact jb_iadd2 (rfl) (by decide) (by omega)
                            obtain ⟨z_46, ez_46⟩ : ∃ y : Int32, y = v8_6 + 1 := ⟨_, rfl⟩
                            refine lv_iinc (v := z_46) (lv' := [(8, .int z_46), (7, .int z_45), (9, .int z_31), (0, .ref r0), (1, .ref r1), (2, .int a2), (3, .int a3), (4, .int a4), (5, .int v5_1), (6, .ref H_2.size)]) hx hb dX5_instance_230 hl (k := 9) rfl (by rw [ez_46]; rfl) (by decide) rfl (fun ls hl => ?_)
                            have hz_46 : z_46.toInt = v8_6.toInt + 1 := by rw [ez_46]; exact jb_iadd2 (rfl) (by decide) (by omega)
                            refine lv_goto (tgt := 103) hx hb dX5_instance_233 (by decide) ?_
                            refine W.tight (c2 := (0 + 1)) (n2 := (0 + nq_4)) hh_43.2.2.2.2.2.1 hh_43.2.2.2.2.2.2.1 ?_
                            exact L103 (upd fq_6 (v7_6.toInt).toNat z_42) z_45 z_46 _ _ hh_43 (hraw_43) (hkp_44) (by refine ⟨by omega, by omega, by omega, by omega, ?_, ?_⟩; (first | exact hi_6_4.toldq (zz_none) (by omega) (by omega) (by omega) (by omega) (by omega) | exact hi_6_4.one (by omega) (by omega) (by omega)); (first | exact hi_6_5.cpy (zz_none) | exact hi_6_5.put (by omega))) (by omega) _ (lv_sub hl [3, 4, 5, 6, 7, 8, 9, 1, 0] rfl)
                        · skip
                          have c_33' : z_31.toInt < a4.toInt := jb_ge_n (rfl) (rfl) c_33
                          refine lv_aload_n hx hb dX5_instance_160 rfl (lv_at hl 1 rfl) ?_
                          refine j7_read hx hb hown hK (C := RX5) (T := TX5) (N := 11) rfl hly_7_5 hlk_41 (hh_6.at 0 rfl) dX5_instance_161 ?_
                          refine lv_aload_n hx hb dX5_instance_164 rfl (lv_at hl 1 rfl) ?_
                          refine j7_read hx hb hown hK (C := RX5) (T := TX5) (N := 11) rfl hly_7_6 hlk_44 (hh_6.at 1 rfl) dX5_instance_165 ?_
                          refine lv_iload hx hb dX5_instance_168 (lv_at hl 0 rfl) ?_
                          refine j7_ialdM hx hb hK hh_6 hB290 1 rfl (by decide) hg_xf (x := z_31.toInt) (rfl) (by omega) (j := 1) rfl dX5_instance_170 (fun z_47 ez_47 (hz_47 : 0 ≤ z_47.toInt ∧ z_47.toInt ≤ 3000) => ?_)
                          have hqz_47 : z_47.toInt = jSo fx (z_31.toInt) := by unfold jSo; rw [ez_47]
                          refine lv_aload hx hb dX5_instance_171 (lv_at hl 7 rfl) ?_
                          refine lv_iload hx hb dX5_instance_173 (lv_at hl 8 rfl) ?_
                          refine lv_aload_n hx hb dX5_instance_175 rfl (lv_at hl 1 rfl) ?_
                          refine j7_read hx hb hown hK (C := RX5) (T := TX5) (N := 11) rfl hly_7_7 hlk_47 (hh_6.at 2 rfl) dX5_instance_176 ?_
                          refine lv_iload hx hb dX5_instance_179 (lv_at hl 0 rfl) ?_
                          refine j7_ialdM hx hb hK hh_6 hB291 1 rfl (by decide) hg_xt (x := z_31.toInt) (rfl) (by omega) (j := 2) rfl dX5_instance_181 (fun z_48 ez_48 (hz_48 : 0 ≤ z_48.toInt ∧ z_48.toInt ≤ 3000) => ?_)
                          have hqz_48 : z_48.toInt = jSo ft (z_31.toInt) := by unfold jSo; rw [ez_48]
                          have htb := hp0 (z_31.toInt) (by omega) (by omega)
                          have hfit := hi_6_4.fitT (y := z_31.toInt) hi_1_4 (by omega) hff (by omega) (by omega) hft (by omega) (by omega) (by omega) (by omega)
                          refine j7_acopyR hx hb (by rw [hml]; exact hl.1.symm) hown (htw (.methodLink RX5 279 arraycopyName) (jWr_86 _ (List.mem_of_getElem? (i := 1) rfl))) (htw (.native arraycopyName) (jWr_16 _ (List.mem_of_getElem? (i := 19) rfl))) (htw (.static arraycopyName) (jWr_16 _ (List.mem_of_getElem? (i := 20) rfl))) (htw (.initialized "java/lang/System") (jWr_16 _ (List.mem_of_getElem? (i := 21) rfl))) hK hh_6 hB hB280 1 rfl (by decide) hg_so hraw_6 hnr_4 hbr_4 (x := z_47.toInt) (y := v7_6.toInt) (z := z_48.toInt) rfl rfl rfl (by omega) (by rw [← hR]; exact Nat.le_of_ble_eq_true rfl) (by rw [← hR]; exact Nat.le_of_ble_eq_true rfl) dX5_instance_182 (fun H_49 locs_49 g_49 hraw_49 hc_49 hr_49 hh_49 => ?_)
                          have hkp_50 := hkp_6.st hsy_4 hr_49
                          clear hr_49
                          clear hh_6
                          refine lv_iload hx hb dX5_instance_185 (lv_at hl 8 rfl) ?_
                          refine lv_aload_n hx hb dX5_instance_187 rfl (lv_at hl 1 rfl) ?_
                          refine j7_read hx hb hown hK (C := RX5) (T := TX5) (N := 11) rfl hly_7_7 hlk_47 (hh_49.at 2 rfl) dX5_instance_188 ?_
                          refine lv_iload hx hb dX5_instance_191 (lv_at hl 0 rfl) ?_
                          refine j7_ialdM hx hb hK hh_49 hB291 1 rfl (by decide) hg_xt (x := z_31.toInt) (rfl) (by omega) (j := 2) rfl dX5_instance_193 (fun z_51 ez_51 (hz_51 : 0 ≤ z_51.toInt ∧ z_51.toInt ≤ 3000) => ?_)
                          have hqz_51 : z_51.toInt = jSo ft (z_31.toInt) := by unfold jSo; rw [ez_51]
                          refine lv_iadd hx hb dX5_instance_194 ?_
                          refine lv_topi (fun z_52 ez_52 => ?_)
                          have hz_52 : z_52.toInt = v7_6.toInt + z_51.toInt := by rw [ez_52]; exact jb_iadd2 (rfl) (rfl) (by omega)
                          refine lv_istore (lv' := [(7, .int z_52), (9, .int z_31), (0, .ref r0), (1, .ref r1), (2, .int a2), (3, .int a3), (4, .int a4), (5, .int v5_1), (6, .ref H_2.size), (8, .int v8_6)]) hx hb dX5_instance_195 hl (by decide) rfl (fun ls hl => ?_)
                          refine lv_goto (tgt := 230) hx hb dX5_instance_197 (by decide) ?_
                          obtain ⟨z_53, ez_53⟩ : ∃ y : Int32, y = v8_6 + 1 := ⟨_, rfl⟩
                          refine lv_iinc (v := z_53) (lv' := [(8, .int z_53), (7, .int z_52), (9, .int z_31), (0, .ref r0), (1, .ref r1), (2, .int a2), (3, .int a3), (4, .int a4), (5, .int v5_1), (6, .ref H_2.size)]) hx hb dX5_instance_230 hl (k := 9) rfl (by rw [ez_53]; rfl) (by decide) rfl (fun ls hl => ?_)
                          have hz_53 : z_53.toInt = v8_6.toInt + 1 := by rw [ez_53]; exact jb_iadd2 (rfl) (by decide) (by omega)
                          refine lv_goto (tgt := 103) hx hb dX5_instance_233 (by decide) ?_
                          refine W.tight (c2 := (0 + 1)) (n2 := (0 + nq_4)) hh_49.2.2.2.2.2.1 hh_49.2.2.2.2.2.2.1 ?_
                          exact L103 g_49 z_52 z_53 _ _ hh_49 (hraw_49) (hkp_50) (by refine ⟨by omega, by omega, by omega, by omega, ?_, ?_⟩; (first | exact hi_6_4.toldq hqz_51 (by omega) (by omega) (by omega) (by omega) (by omega) | exact hi_6_4.one (by omega) (by omega) (by omega)); (first | exact hi_6_5.cpy hc_49 | exact hi_6_5.put (by omega))) (by omega) _ (lv_sub hl [3, 4, 5, 6, 7, 8, 9, 1, 0] rfl)
          refine W.tight (c2 := (0 + 1)) (n2 := (0 + nq_4)) hh_4.2.2.2.2.2.1 hh_4.2.2.2.2.2.2.1 ?_
          exact L103 (((n1 - (a2 : Int32).toInt).toNat : Int) : Int).toNat.succ (fun _ => 0) 0 a2 _ _ hh_4 (hraw_4) (hkp_5) (by refine ⟨by omega, by omega, by omega, by omega, jPqk.zero (by omega) (by omega), jFp.zero⟩) (by omega) _ (lv_sub hl [3, 4, 5, 6, 7, 8, 2, 1, 0] rfl)
        · skip
          have c_3' : v5_1.toInt > 80 := jb_le_n (rfl) ((by decide)) c_3
          refine lv_null hx hb dX5_instance_89 ?_
          have hsz_54 := hh_2.2.2.2.2.2.1
          have htt_54 := hh_2.2.2.2.2.2.2.1
          refine W.room (fun hrc_54 hrs_54 => ?_)
          refine W.widen (k := LC - s.heap.size) (n := LS - jTot s.heap) (by omega) (by omega) ?_
          rw [hQ]
          exact W.aret (v := .null) hx hb hr (Or.inr ⟨_, rfl⟩) (Or.inl rfl) (fun t ht hW => ⟨⟨.null, (0, G0), rfl, ⟨Or.inl rfl, by (try dsimp only); first | omega | rfl | assumption | fail⟩, ⟨hh_2.ra (by first | omega | (simp only; omega)) (by first | omega | (simp only; omega)) (M1 := []) [] rfl ht, jNk.rf, by rw [ht]; exact hkp_2⟩⟩, by rw [ht]; try exact hh_2.1.1, fun q h9 hq => by rw [ht]; try exact hh_2.1.2.1 q h9 hq⟩) hh_2.1.2.2 dX5_instance_90
      refine lv_icmp_ge (tgt := 82) hx hb dX5_instance_9 (by decide) (fun c_55 => ?_) (fun c_55 => ?_)
      · skip
        have c_55' : v6_1.toInt ≥ a3.toInt := jb_ge (rfl) (rfl) c_55
        refine W.tight (c2 := 0) (n2 := 0) hh_1.2.2.2.2.2.1 hh_1.2.2.2.2.2.2.1 ?_
        exact C82  _ _ hh_1 (hkp_1) (by first | omega | rfl | assumption | decide | exact Or.inl rfl | exact Or.inr rfl | (simp only; omega)) _ (lv_sub hl [0, 1, 2, 3, 4, 5, 6] rfl)
      · skip
        have c_55' : v6_1.toInt < a3.toInt := jb_ge_n (rfl) (rfl) c_55
        refine lv_iload hx hb dX5_instance_12 (lv_at hl 6 rfl) ?_
        refine lv_aload_n hx hb dX5_instance_14 rfl (lv_at hl 1 rfl) ?_
        refine j7_len hx hb hK hh_1 hB280 1 rfl (by decide) hg_r1 (by omega) dX5_instance_15 (fun z_56 hz_56 => ?_)
        refine lv_icmp_ge (tgt := 82) hx hb dX5_instance_16 (by decide) (fun c_57 => ?_) (fun c_57 => ?_)
        · skip
          have c_57' : v6_1.toInt ≥ z_56.toInt := jb_ge (rfl) (rfl) c_57
          refine W.tight (c2 := 0) (n2 := 0) hh_1.2.2.2.2.2.1 hh_1.2.2.2.2.2.2.1 ?_
          exact C82  _ _ hh_1 (hkp_1) (by first | omega | rfl | assumption | decide | exact Or.inl rfl | exact Or.inr rfl | (simp only; omega)) _ (lv_sub hl [0, 1, 2, 3, 4, 5, 6] rfl)
        · skip
          have c_57' : v6_1.toInt < z_56.toInt := jb_ge_n (rfl) (rfl) c_57
          refine lv_aload_n hx hb dX5_instance_19 rfl (lv_at hl 1 rfl) ?_
          refine lv_iload hx hb dX5_instance_20 (lv_at hl 6 rfl) ?_
          refine j7_ialdM hx hb hK hh_1 hB280 1 rfl (by decide) hg_r1 (x := v6_1.toInt) (rfl) (by omega) (j := 0) rfl dX5_instance_22 (fun z_58 ez_58 (hz_58 : -1 ≤ z_58.toInt) => ?_)
          have hqz_58 : z_58.toInt = jSo ff (v6_1.toInt) := by unfold jSo; rw [ez_58]
          refine lv_bipush (v := 15) hx hb dX5_instance_23 (by decide) ?_
          refine lv_iand hx hb dX5_instance_25 ?_
          refine lv_topi (fun z_59 ez_59 => ?_)
          have hz_59 : 0 ≤ z_59.toInt ∧ z_59.toInt ≤ 15 := by rw [ez_59]; exact jb_and z_58 (m := 15) (k := 4) (by decide) (by decide)
          have hbz_59 : z_59.toInt = z_58.toInt % 16 := by rw [ez_59, jb_and15]
          refine lv_bipush (v := 10) hx hb dX5_instance_26 (by decide) ?_
          refine lv_icmp_ne (tgt := 47) hx hb dX5_instance_28 (by decide) (fun c_60 => ?_) (fun c_60 => ?_)
          · skip
            have c_60' : z_59.toInt ≠ 10 := jb_ne (rfl) ((by decide)) c_60
            refine lv_iconst (v := 0) hx hb dX5_instance_47 (by decide) ?_
            refine lv_istore (lv' := [(7, .int 0), (0, .ref r0), (1, .ref r1), (2, .int a2), (3, .int a3), (4, .int a4), (5, .int v5_1), (6, .int v6_1)]) hx hb dX5_instance_48 hl (by decide) rfl (fun ls hl => ?_)
            refine lv_iload hx hb dX5_instance_50 (lv_at hl 6 rfl) ?_
            refine lv_iload hx hb dX5_instance_52 (lv_at hl 0 rfl) ?_
            refine lv_if_eq (tgt := 72) hx hb dX5_instance_54 (by decide) (fun c_61 => ?_) (fun c_61 => ?_)
            · skip
              refine lv_iconst (v := 1) hx hb dX5_instance_72 (by decide) ?_
              refine lv_iadd hx hb dX5_instance_73 ?_
              refine lv_topi (fun z_62 ez_62 => ?_)
              have hz_62 : z_62.toInt = v5_1.toInt + 1 := by rw [ez_62]; exact jb_iadd2 (rfl) ((by decide)) (by omega)
              refine lv_istore (lv' := [(5, .int z_62), (7, .int 0), (0, .ref r0), (1, .ref r1), (2, .int a2), (3, .int a3), (4, .int a4), (6, .int v6_1)]) hx hb dX5_instance_74 hl (by decide) rfl (fun ls hl => ?_)
              obtain ⟨z_63, ez_63⟩ : ∃ y : Int32, y = v6_1 + 1 := ⟨_, rfl⟩
              refine lv_iinc (v := z_63) (lv' := [(6, .int z_63), (5, .int z_62), (7, .int 0), (0, .ref r0), (1, .ref r1), (2, .int a2), (3, .int a3), (4, .int a4)]) hx hb dX5_instance_76 hl (k := 7) rfl (by rw [ez_63]; rfl) (by decide) rfl (fun ls hl => ?_)
              have hz_63 : z_63.toInt = v6_1.toInt + 1 := by rw [ez_63]; exact jb_iadd2 (rfl) (by decide) (by omega)
              refine lv_goto (tgt := 6) hx hb dX5_instance_79 (by decide) ?_
              refine W.tight (c2 := 0) (n2 := 0) hh_1.2.2.2.2.2.1 hh_1.2.2.2.2.2.2.1 ?_
              exact L6 z_62 z_63 _ _ hh_1 (hkp_1) (by refine ⟨by omega, by omega, by omega, by omega, ?_⟩; first | exact hi_1_4.toldq (zz_none) (by omega) (by omega) (by omega) (by omega) (by omega) | exact hi_1_4.one (by omega) (by omega) (by omega)) (by omega) _ (lv_sub hl [3, 4, 5, 6, 7, 1, 0] rfl)
            · skip
              exact absurd c_61 (by decide)
          · skip
            have c_60' : z_59.toInt = 10 := jb_ne_n (rfl) ((by decide)) c_60
            refine lv_aload_n hx hb dX5_instance_31 rfl (lv_at hl 1 rfl) ?_
            refine lv_iload hx hb dX5_instance_32 (lv_at hl 6 rfl) ?_
            refine j7_ialdM hx hb hK hh_1 hB280 1 rfl (by decide) hg_r1 (x := v6_1.toInt) (rfl) (by omega) (j := 0) rfl dX5_instance_34 (fun z_64 ez_64 (hz_64 : -1 ≤ z_64.toInt) => ?_)
            have hqz_64 : z_64.toInt = jSo ff (v6_1.toInt) := by unfold jSo; rw [ez_64]
            refine lv_bipush (v := 15) hx hb dX5_instance_35 (by decide) ?_
            refine lv_ishr hx hb dX5_instance_37 ?_
            refine lv_topi (fun z_65 ez_65 => ?_)
            have hz_65 : z_65.toInt = z_64.toInt / 2 ^ 15 := by rw [ez_65]; exact jb_ishr 15 (rfl) (by decide)
            refine lv_iload hx hb dX5_instance_38 (lv_at hl 4 rfl) ?_
            refine lv_icmp_ge (tgt := 47) hx hb dX5_instance_40 (by decide) (fun c_66 => ?_) (fun c_66 => ?_)
            · skip
              have c_66' : z_65.toInt ≥ a4.toInt := jb_ge (rfl) (rfl) c_66
              refine lv_iconst (v := 0) hx hb dX5_instance_47 (by decide) ?_
              refine lv_istore (lv' := [(7, .int 0), (0, .ref r0), (1, .ref r1), (2, .int a2), (3, .int a3), (4, .int a4), (5, .int v5_1), (6, .int v6_1)]) hx hb dX5_instance_48 hl (by decide) rfl (fun ls hl => ?_)
              refine lv_iload hx hb dX5_instance_50 (lv_at hl 6 rfl) ?_
              refine lv_iload hx hb dX5_instance_52 (lv_at hl 0 rfl) ?_
              refine lv_if_eq (tgt := 72) hx hb dX5_instance_54 (by decide) (fun c_67 => ?_) (fun c_67 => ?_)
              · skip
                refine lv_iconst (v := 1) hx hb dX5_instance_72 (by decide) ?_
                refine lv_iadd hx hb dX5_instance_73 ?_
                refine lv_topi (fun z_68 ez_68 => ?_)
                have hz_68 : z_68.toInt = v5_1.toInt + 1 := by rw [ez_68]; exact jb_iadd2 (rfl) ((by decide)) (by omega)
                refine lv_istore (lv' := [(5, .int z_68), (7, .int 0), (0, .ref r0), (1, .ref r1), (2, .int a2), (3, .int a3), (4, .int a4), (6, .int v6_1)]) hx hb dX5_instance_74 hl (by decide) rfl (fun ls hl => ?_)
                obtain ⟨z_69, ez_69⟩ : ∃ y : Int32, y = v6_1 + 1 := ⟨_, rfl⟩
                refine lv_iinc (v := z_69) (lv' := [(6, .int z_69), (5, .int z_68), (7, .int 0), (0, .ref r0), (1, .ref r1), (2, .int a2), (3, .int a3), (4, .int a4)]) hx hb dX5_instance_76 hl (k := 7) rfl (by rw [ez_69]; rfl) (by decide) rfl (fun ls hl => ?_)
                have hz_69 : z_69.toInt = v6_1.toInt + 1 := by rw [ez_69]; exact jb_iadd2 (rfl) (by decide) (by omega)
                refine lv_goto (tgt := 6) hx hb dX5_instance_79 (by decide) ?_
                refine W.tight (c2 := 0) (n2 := 0) hh_1.2.2.2.2.2.1 hh_1.2.2.2.2.2.2.1 ?_
                exact L6 z_68 z_69 _ _ hh_1 (hkp_1) (by refine ⟨by omega, by omega, by omega, by omega, ?_⟩; first | exact hi_1_4.toldq (zz_none) (by omega) (by omega) (by omega) (by omega) (by omega) | exact hi_1_4.one (by omega) (by omega) (by omega)) (by omega) _ (lv_sub hl [3, 4, 5, 6, 7, 1, 0] rfl)
              · skip
                exact absurd c_67 (by decide)
            · skip
              have c_66' : z_65.toInt < a4.toInt := jb_ge_n (rfl) (rfl) c_66
              refine lv_iconst (v := 1) hx hb dX5_instance_43 (by decide) ?_
              refine lv_goto (tgt := 48) hx hb dX5_instance_44 (by decide) ?_
              refine lv_istore (lv' := [(7, .int 1), (0, .ref r0), (1, .ref r1), (2, .int a2), (3, .int a3), (4, .int a4), (5, .int v5_1), (6, .int v6_1)]) hx hb dX5_instance_48 hl (by decide) rfl (fun ls hl => ?_)
              refine lv_iload hx hb dX5_instance_50 (lv_at hl 6 rfl) ?_
              refine lv_iload hx hb dX5_instance_52 (lv_at hl 0 rfl) ?_
              refine lv_if_eq (tgt := 72) hx hb dX5_instance_54 (by decide) (fun c_70 => ?_) (fun c_70 => ?_)
              · skip
                exact absurd c_70 (by decide)
              · skip
                refine lv_aload_n hx hb dX5_instance_57 rfl (lv_at hl 1 rfl) ?_
                refine j7_read hx hb hown hK (C := RX5) (T := TX5) (N := 11) rfl hly_7_7 hlk_47 (hh_1.at 2 rfl) dX5_instance_58 ?_
                refine lv_aload_n hx hb dX5_instance_61 rfl (lv_at hl 2 rfl) ?_
                refine lv_iload hx hb dX5_instance_62 (lv_at hl 7 rfl) ?_
                refine j7_ialdM hx hb hK hh_1 hB280 1 rfl (by decide) hg_r1 (x := v6_1.toInt) (rfl) (by omega) (j := 0) rfl dX5_instance_64 (fun z_71 ez_71 (hz_71 : -1 ≤ z_71.toInt) => ?_)
                have hqz_71 : z_71.toInt = jSo ff (v6_1.toInt) := by unfold jSo; rw [ez_71]
                refine lv_bipush (v := 15) hx hb dX5_instance_65 (by decide) ?_
                refine lv_ishr hx hb dX5_instance_67 ?_
                refine lv_topi (fun z_72 ez_72 => ?_)
                have hz_72 : z_72.toInt = z_71.toInt / 2 ^ 15 := by rw [ez_72]; exact jb_ishr 15 (rfl) (by decide)
                refine j7_ialdM hx hb hK hh_1 hB291 1 rfl (by decide) hg_xt (x := z_72.toInt) (rfl) (by omega) (j := 2) rfl dX5_instance_68 (fun z_73 ez_73 (hz_73 : 0 ≤ z_73.toInt ∧ z_73.toInt ≤ 3000) => ?_)
                have hqz_73 : z_73.toInt = jSo ft (z_72.toInt) := by unfold jSo; rw [ez_73]
                refine lv_goto (tgt := 73) hx hb dX5_instance_69 (by decide) ?_
                refine lv_iadd hx hb dX5_instance_73 ?_
                refine lv_topi (fun z_74 ez_74 => ?_)
                have hz_74 : z_74.toInt = v5_1.toInt + z_73.toInt := by rw [ez_74]; exact jb_iadd2 (rfl) (rfl) (by omega)
                refine lv_istore (lv' := [(5, .int z_74), (7, .int 1), (0, .ref r0), (1, .ref r1), (2, .int a2), (3, .int a3), (4, .int a4), (6, .int v6_1)]) hx hb dX5_instance_74 hl (by decide) rfl (fun ls hl => ?_)
                obtain ⟨z_75, ez_75⟩ : ∃ y : Int32, y = v6_1 + 1 := ⟨_, rfl⟩
                refine lv_iinc (v := z_75) (lv' := [(6, .int z_75), (5, .int z_74), (7, .int 1), (0, .ref r0), (1, .ref r1), (2, .int a2), (3, .int a3), (4, .int a4)]) hx hb dX5_instance_76 hl (k := 7) rfl (by rw [ez_75]; rfl) (by decide) rfl (fun ls hl => ?_)
                have hz_75 : z_75.toInt = v6_1.toInt + 1 := by rw [ez_75]; exact jb_iadd2 (rfl) (by decide) (by omega)
                refine lv_goto (tgt := 6) hx hb dX5_instance_79 (by decide) ?_
                refine W.tight (c2 := 0) (n2 := 0) hh_1.2.2.2.2.2.1 hh_1.2.2.2.2.2.2.1 ?_
                exact L6 z_74 z_75 _ _ hh_1 (hkp_1) (by refine ⟨by omega, by omega, by omega, by omega, ?_⟩; first | exact hi_1_4.toldq hqz_73 (by omega) (by omega) (by omega) (by omega) (by omega) | exact hi_1_4.one (by omega) (by omega) (by omega)) (by omega) _ (lv_sub hl [3, 4, 5, 6, 7, 1, 0] rfl)
  refine W.tight (c2 := 0) (n2 := 0) hh.2.2.2.2.2.1 hh.2.2.2.2.2.2.1 ?_
  exact L6 (((n1 - (a2 : Int32).toInt).toNat : Int) : Int).toNat.succ 0 a2 _ _ hh (hkp) (by refine ⟨by omega, by omega, by omega, by omega, jPqk.zero (by omega) (by omega)⟩) (by omega) _ (lv_sub hl [2, 3, 4, 5, 6, 1, 0] rfl)
set_option maxHeartbeats 4000000 in
set_option maxRecDepth 20000 in
theorem uX5_opened (l : Launch) (dC : Nat → ClassId) (dI : Nat → Nat → Nat) (ca : Nat → ClassId) (base : Nat) (B : jF) (hB : jBok B) (hAp : jAp (dC, dI)) (hB7 : ∀ n G a H, B 7 n G a H ↔ jOb (dC, dI) 7 11 (F7 n G) a H) (hB280 : ∀ n G a H, B 280 n G a H ↔ jAr (dC, dI) (ca 1) (fun j z => -1 ≤ z.toInt) n a H) (hB290 : ∀ n G a H, B 290 n G a H ↔ jAr (dC, dI) (ca 1) (fun j z => 0 ≤ z.toInt ∧ z.toInt ≤ 3000) n a H) (hB291 : ∀ n G a H, B 291 n G a H ↔ jAr (dC, dI) (ca 1) (fun j z => 0 ≤ z.toInt ∧ z.toInt ≤ 3000) n a H) (G0 : jT) (H0 : Heap) (r0 : Nat) (r1 : Nat) (r2 : Nat) (a3 : Int32) (n1 : Nat) (n2 : Nat) (xf : Nat) (xt : Nat) (fx : Nat → Int32) (ft : Nat → Int32) (LC LS : Nat) : Met l yX5_opened (jw yX5_opened cX5_opened 4 (some (.array .int))) ({ frames := 2, cells := LC - H0.size, slots := LS - jTot H0, locals := 90 }) (va_Pc [.ref r0, .ref r1, .ref r2, .int a3] (fun U => U.heap = H0 ∧ jX B base G0 [] H0 ∧ jG dC dI ca base U ∧ G0 r1 = some (280, n1) ∧ G0 r2 = some (280, n2) ∧ G0 r0 = some (7, 0) ∧ G0 xf = some (290, 13) ∧ G0 xt = some (291, 13) ∧ jP (dC, dI) G0 H0 [(r0, 7, 6, .ref xf), (r0, 7, 7, .ref xt)] ∧ jMc (dC, dI) G0 H0 [(xf, 290, 13, ca 1, fx), (xt, 291, 13, ca 1, ft)] ∧ H0.size + 1 ≤ LC ∧ jTot H0 + 80 ≤ LS ∧ n1 ≤ 80 ∧ n2 ≤ 3000 ∧ 0 ≤ a3.toInt)) (jQx (S := Nat × jT) (fun v u => (v = .null ∨ (jRf u.2 280 u.1 v ∧ jNwv v H0)) ∧ u.1 ≤ 80) (fun u t => jRa (dC, dI) B base G0 u.2 EX5_opened H0 (1) (80) [] t.heap ∧ (jNk [0, 1, 2, 3, 4, 5, 6, 7, 8, 9, 10, 11, 12, 13, 14, 15, 16, 17, 175]) G0 u.2) (jA base)) (LC - H0.size) (LS - jTot H0) (jA base) := by
  refine Met.ofW (cc := cX5_opened) (maxL := 4) (ret := (some (.array .int))) (by decide) rfl ?_
  intro p e s m args below meth c s₁ Bd hml hv
  obtain ⟨rfl, hH0, hX, hG, hg_r1, hg_r2, hg_r0, hg_xf, hg_xt, hP0, hM0, hLC0, hLS0, hp0, hp1, hp2⟩ := hv
  have hK := hG.1
  have hx := Bd.exec
  have hb := Bd.bytes
  have hr := Bd.returns
  have hts := atoms_spec (ws := (jw yX5_opened cX5_opened 4 (some (.array .int)))) Bd.pre
  have htw : ∀ w ∈ jWl, w.before _ s = true := fun w h => hts w (List.mem_cons_of_mem _ h)
  have hown : s.vm.findClass RX5 = some m.cls := findClass_of_methodNamed Bd.named
  have hlocks := Bd.notSynchronized
  obtain ⟨Q, hQ⟩ : ∃ Q, Q = MQ below (jQx (S := Nat × jT) (fun v u => (v = .null ∨ (jRf u.2 280 u.1 v ∧ jNwv v H0)) ∧ u.1 ≤ 80) (fun u t => jRa (dC, dI) B base G0 u.2 EX5_opened H0 (1) (80) [] t.heap ∧ (jNk [0, 1, 2, 3, 4, 5, 6, 7, 8, 9, 10, 11, 12, 13, 14, 15, 16, 17, 175]) G0 u.2) (jA base)) ([.ref r0, .ref r1, .ref r2, .int a3] : List Value).toArray s (LC - H0.size) (LS - jTot H0) (jA base) := ⟨_, rfl⟩
  rw [← hQ]
  have hl := lv_entry ([.ref r0, .ref r1, .ref r2, .int a3]) (n := 4) (Nat.le_of_ble_eq_true rfl)
  rw [lg_entry_eq]
  generalize (lg_sl ([.ref r0, .ref r1, .ref r2, .int a3]) ++ List.replicate (4 - (lg_sl ([.ref r0, .ref r1, .ref r2, .int a3])).length) Slot.unset).toArray = ls at hl ⊢
  have hl : lv_has ls 4 [(0, .ref r0), (1, .ref r1), (2, .ref r2), (3, .int a3)] := hl
  generalize hR : (headSpec (jw yX5_opened cX5_opened 4 (some (.array .int))) ({ frames := 2, cells := LC - H0.size, slots := LS - jTot H0, locals := 90 })).room = R
  subst hH0
  have hh : jSt (dC, dI) B base G0 G0 EX5_opened s.heap 0 0 [(r0, 7, 6, .ref xf), (r0, 7, 7, .ref xt)] [(xf, 290, 13, ca 1, fx), (xt, 291, 13, ca 1, ft)] [] s.heap [] := jSt.start hX hP0 hM0 jIs.nil
  clear hX hP0
  have hk0 : (0 : Int32).toInt = 0 := by decide
  have hk1 : (1 : Int32).toInt = 1 := by decide
  have hly_7_5 := htw (u_lay RX5 TX5 5) (jWc_wsX50 _ (u_in_lay (by decide)))
  have hly_7_6 := htw (u_lay RX5 TX5 6) (jWc_wsX50 _ (u_in_lay (by decide)))
  have hly_7_7 := htw (u_lay RX5 TX5 7) (jWc_wsX50 _ (u_in_lay (by decide)))
  have hlk_41 := (htw (.fieldLink RX5 41 "ProofServer$Kernel" "source" "[I") (jWr_4 _ (List.mem_of_getElem? (i := 22) rfl)))
  have hlk_44 := (htw (.fieldLink RX5 44 "ProofServer$Kernel" "termFrom" "[I") (jWr_4 _ (List.mem_of_getElem? (i := 23) rfl)))
  have hlk_47 := (htw (.fieldLink RX5 47 "ProofServer$Kernel" "termSize" "[I") (jWr_5 _ (List.mem_of_getElem? (i := 0) rfl)))
  have hrg_a3 := jb_rng a3
  have hbs : base ≤ s.heap.size := Nat.le_of_lt (Nat.lt_of_le_of_lt (hh.ab hg_r0).1 (hh.ab hg_r0).2)
  have hRc : R.cells = LC - s.heap.size := by rw [← hR]; rfl
  have hRs : R.slots = LS - jTot s.heap := by rw [← hR]; rfl
  refine lv_aload_n hx hb dX5_opened_0 rfl (lv_at hl 0 rfl) ?_
  refine lv_aload_n hx hb dX5_opened_1 rfl (lv_at hl 2 rfl) ?_
  refine j7_put hx hb hown hK hh hB hAp hB7 (C := RX5) (T := TX5) (N := 11) rfl (by decide) hg_r0 (i := 5) (by decide) hly_7_5 rfl hlk_41 rfl (ty := (.array .int)) (v := .ref r2) (by decide +kernel) rfl rfl (⟨_, _, rfl, hg_r2, by omega⟩) rfl (L1 := [(r0, 7, 6, .ref xf), (r0, 7, 7, .ref xt)]) [0, 1] rfl rfl rfl dX5_opened_2 (fun H_1 locs_1 hh_1 => ?_)
  clear hh
  refine lv_aload_n hx hb dX5_opened_5 rfl (lv_at hl 0 rfl) ?_
  refine j7_read hx hb hown hK (C := RX5) (T := TX5) (N := 11) rfl hly_7_6 hlk_44 (hh_1.at 1 rfl) dX5_opened_6 ?_
  refine lv_iconst (v := 0) hx hb dX5_opened_9 (by decide) ?_
  refine lv_iconst (v := 0) hx hb dX5_opened_10 (by decide) ?_
  refine j7_iastU hx hb hK hh_1 hB hB290 1 rfl (by decide) (by decide) rfl 0 rfl (M1 := [(xt, 291, 13, ca 1, ft)]) [1] rfl rfl rfl hg_xf (x := 0) ((by decide)) (by omega) (by first | omega | (refine ⟨?_, ?_⟩ <;> (first | omega | rfl | assumption | decide | exact Or.inl rfl | exact Or.inr rfl | (simp only; omega)))) dX5_opened_11 (fun H_2 locs_2 fs_3 hv_2 ho_2 hh_2 => ?_)
  have hv_2 : jSo fs_3 (0) = 0 := by unfold jSo; rw [hv_2]; try exact (by decide)
  clear hh_1
  refine lv_aload_n hx hb dX5_opened_12 rfl (lv_at hl 0 rfl) ?_
  refine j7_read hx hb hown hK (C := RX5) (T := TX5) (N := 11) rfl hly_7_7 hlk_47 (hh_2.at 2 rfl) dX5_opened_13 ?_
  refine lv_iconst (v := 0) hx hb dX5_opened_16 (by decide) ?_
  refine lv_iload_n hx hb dX5_opened_17 rfl (lv_at hl 3 rfl) ?_
  refine lv_aload_n hx hb dX5_opened_18 rfl (lv_at hl 2 rfl) ?_
  refine j7_len hx hb hK hh_2 hB280 1 rfl (by decide) hg_r2 (by omega) dX5_opened_19 (fun z_4 hz_4 => ?_)
  have hsz_5 := hh_2.2.2.2.2.2.1
  have htt_5 := hh_2.2.2.2.2.2.2.1
  refine W.room (fun hrc_5 hrs_5 => ?_)
  refine va_mmin hx hb (by rw [hml]; exact hl.1.symm) hown (htw (.methodLink RX5 303 Lib.Math.min.name) (jWr_85 _ (List.mem_of_getElem? (i := 20) rfl))) (htw (.static Lib.Math.min.name) (jWr_16 _ (List.mem_of_getElem? (i := 16) rfl))) (htw (.initialized "java/lang/Math") (jWr_3 _ (List.mem_of_getElem? (i := 7) rfl))) (htw (.code Lib.Math.min.name Lib.Math.min.code 2 (some .int)) (jWr_16 _ (List.mem_of_getElem? (i := 17) rfl))) (by rw [← hR]; exact Nat.le_of_ble_eq_true rfl) (by rw [← hR]; exact Nat.le_of_ble_eq_true rfl) (by rw [hRc]; omega) (by rw [hRs]; omega) dX5_opened_20 ?_
  refine lv_topi (fun z_6 ez_6 => ?_)
  have hz_6 := jb_min ez_6
  refine j7_iastU hx hb hK hh_2 hB hB291 1 rfl (by decide) (by decide) rfl 1 rfl (M1 := [(xf, 290, 13, ca 1, fs_3)]) [0] rfl rfl rfl hg_xt (x := 0) ((by decide)) (by omega) (by first | omega | (refine ⟨?_, ?_⟩ <;> (first | omega | rfl | assumption | decide | exact Or.inl rfl | exact Or.inr rfl | (simp only; omega)))) dX5_opened_23 (fun H_7 locs_7 fs_8 hv_7 ho_7 hh_7 => ?_)
  have hv_7 : jSo fs_8 (0) = z_6.toInt := by unfold jSo; rw [hv_7]; try exact rfl
  clear hh_2
  refine lv_aload_n hx hb dX5_opened_24 rfl (lv_at hl 0 rfl) ?_
  refine lv_aload_n hx hb dX5_opened_25 rfl (lv_at hl 1 rfl) ?_
  refine lv_iconst (v := 1) hx hb dX5_opened_26 (by decide) ?_
  refine lv_aload_n hx hb dX5_opened_27 rfl (lv_at hl 1 rfl) ?_
  refine j7_len hx hb hK hh_7 hB280 1 rfl (by decide) hg_r1 (by omega) dX5_opened_28 (fun z_9 hz_9 => ?_)
  refine lv_iconst (v := 1) hx hb dX5_opened_29 (by decide) ?_
  obtain ⟨f_ff_12, hh_12⟩ := hh_7.cpin hB280 (by decide) (by decide) hg_r1
  clear hh_7
  have hsz_10 := hh_12.2.2.2.2.2.1
  have htt_10 := hh_12.2.2.2.2.2.2.1
  refine W.room (fun hrc_10 hrs_10 => ?_)
  refine j_callx (A0 := jA base) (H0 := s.heap) (va_runV (As := [.ref r1, .int 1, .int z_9, .int 1]) (rest := []) ⟨hx, hb, hml, hown, hts⟩ (uX5_instance l dC dI ca base B hB hAp hB7 hB280 hB290 hB291 G0 H_7 r0 r1 1 z_9 1 n1 r2 n2 xf xt f_ff_12 fs_3 fs_8 LC LS) (cwV 4 hts (jgV (jWr_85 _ (List.mem_of_getElem? (i := 21) rfl)) (jWr_85 _ (List.mem_of_getElem? (i := 22) rfl)) (jWr_85 _ (List.mem_of_getElem? (i := 23) rfl)) (jWr_2 _ (List.mem_of_getElem? (i := 4) rfl)) (jWr_86 _ (List.mem_of_getElem? (i := 0) rfl))) rfl rfl rfl (by decide +kernel) ⟨by rw [← hR]; exact Nat.le_of_ble_eq_true rfl, by rw [← hR]; exact Nat.le_of_ble_eq_true rfl⟩) ⟨fun a U g mk q => by obtain ⟨q0, q1, q2, qK, q10, q11, q12, q13, q14, q15, q16, q17⟩ := q; exact ⟨q0, q1, q2, jG.calling g mk a qK, q10, q11, q12, q13, q14, q15, q16, q17⟩, hh_12.recv (C := RX5) (T := TX5) (N := 11) hB7 rfl (by decide) hg_r0 hK, fun U hU hW => ⟨rfl, hU, hh_12.2.1, hG.step hW hU hh_12.1, hg_r1, hg_r0, hg_r2, hg_xf, hg_xt, (hh_12.2.2.1.sub (L1 := [(r0, 7, 5, .ref r2), (r0, 7, 6, .ref xf), (r0, 7, 7, .ref xt)]) [0, 1, 2] rfl), (hh_12.2.2.2.2.2.2.2.1.sub (L1 := [(r1, 280, n1, ca 1, f_ff_12), (xf, 290, 13, ca 1, fs_3), (xt, 291, 13, ca 1, fs_8)]) [0, 2, 1] rfl), (by omega), (by omega), ⟨(by first | assumption | exact jTbk.one hv_2 hv_7 (by omega) | omega), (by first | omega | rfl | assumption | exact jTbk.one hv_2 hv_7 (by omega)), (by first | omega | rfl | assumption | exact jTbk.one hv_2 hv_7 (by omega)), (by first | omega | rfl | assumption | exact jTbk.one hv_2 hv_7 (by omega)), (by first | omega | rfl | assumption | exact jTbk.one hv_2 hv_7 (by omega)), (by first | omega | rfl | assumption | exact jTbk.one hv_2 hv_7 (by omega))⟩⟩⟩ rfl rfl hl.1 rfl (lv_room (Nat.le_of_ble_eq_true rfl)) dX5_opened_30 ⟨by rw [hRc]; omega, by rw [hRs]; omega⟩) hh_12.1 (fun q _ h => h) (fun q h => h) (fun r_11 u_10 t_10 H_10 locs_10 ht_10 hvm_10 hr_11 hb_10 hz_10 hk_10 hS_10 => ?_)
  rw [ht_10] at hb_10
  obtain ⟨m_ret_10, G_10⟩ := u_10
  simp only at hb_10
  obtain ⟨⟨hb_101, hb_102, hb_103, hb_104, hb_105, hb_106⟩, hN_10, hbK_10⟩ := hb_10
  have hh_10 : jSt (dC, dI) B base G0 G_10 EX5_opened s.heap (0 + (1)) (0 + (80)) [(r0, 7, 5, .ref r2), (r0, 7, 6, .ref xf), (r0, 7, 7, .ref xt)] [(r1, 280, n1, ca 1, f_ff_12), (xt, 291, 13, ca 1, fs_8), (xf, 290, 13, ca 1, fs_3)] [] H_10 locs_10 := (hh_12.callG hb_101 hb_102 hb_103 hb_104 hb_105 hS_10 rfl (L1 := [(r0, 7, 5, .ref r2), (r0, 7, 6, .ref xf), (r0, 7, 7, .ref xt)]) [0, 1, 2] rfl rfl (M1 := [(r1, 280, n1, ca 1, f_ff_12), (xt, 291, 13, ca 1, fs_8), (xf, 290, 13, ca 1, fs_3)]) [0, 1, 2] rfl rfl (I1 := []) [] rfl rfl).more hb_106
  have hNn_10 : (jNk [0, 1, 2, 3, 4, 5, 6, 7, 8, 9, 10, 11, 12, 13, 14, 15, 16, 17, 175]) G0 G_10 := (jNk.rf).tr hN_10
  have hg_13 := hb_102 _ _ hg_r0
  have hg_14 := hb_102 _ _ hg_r1
  have hg_15 := hb_102 _ _ hg_r2
  have hg_16 := hb_102 _ _ hg_xf
  have hg_17 := hb_102 _ _ hg_xt
  obtain ⟨hr_11, hr_11p⟩ := hr_11
  try simp only at hr_11p
  rcases hr_11 with rfl | ⟨hr_11, hr_11n⟩
  · skip
    have hsz_18 := hh_10.2.2.2.2.2.1
    have htt_18 := hh_10.2.2.2.2.2.2.1
    refine W.room (fun hrc_18 hrs_18 => ?_)
    refine W.widen (k := LC - s.heap.size) (n := LS - jTot s.heap) (by omega) (by omega) ?_
    rw [hQ]
    exact W.aret (v := .null) hx hb hr (Or.inr ⟨_, rfl⟩) (Or.inl rfl) (fun t ht hW => ⟨⟨.null, (0, G_10), rfl, ⟨Or.inl rfl, by (try dsimp only); first | omega | rfl | assumption | fail⟩, ⟨hh_10.ra (by first | omega | (simp only; omega)) (by first | omega | (simp only; omega)) (M1 := []) [] rfl ht, hNn_10⟩⟩, by rw [ht]; try exact hh_10.1.1, fun q h9 hq => by rw [ht]; try exact hh_10.1.2.1 q h9 hq⟩) hh_10.1.2.2 dX5_opened_33
  · skip
    obtain ⟨ret_19, rfl, hg_ret_19⟩ := hr_11
    have hsy_10 : s.heap.size ≤ ret_19 := Nat.le_trans hh_12.1.1 hr_11n.le
    have hsz_20 := hh_10.2.2.2.2.2.1
    have htt_20 := hh_10.2.2.2.2.2.2.1
    refine W.room (fun hrc_20 hrs_20 => ?_)
    refine W.widen (k := LC - s.heap.size) (n := LS - jTot s.heap) (by omega) (by omega) ?_
    rw [hQ]
    exact W.aret (v := .ref ret_19) hx hb hr (Or.inr ⟨_, rfl⟩) (Or.inr ⟨_, rfl⟩) (fun t ht hW => ⟨⟨.ref ret_19, (m_ret_10, G_10), rfl, ⟨Or.inr ⟨⟨_, rfl, hg_ret_19⟩, ⟨_, rfl, hsy_10⟩⟩, by (try dsimp only); first | omega | rfl | assumption | fail⟩, ⟨hh_10.ra (by first | omega | (simp only; omega)) (by first | omega | (simp only; omega)) (M1 := []) [] rfl ht, hNn_10⟩⟩, by rw [ht]; try exact hh_10.1.1, fun q h9 hq => by rw [ht]; try exact hh_10.1.2.1 q h9 hq⟩) hh_10.1.2.2 dX5_opened_33
end
