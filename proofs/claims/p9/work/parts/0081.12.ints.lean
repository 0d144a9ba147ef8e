section
theorem dX11_isDigit_0 : decode cX11_isDigit 0 = .ok (.iload_n 0, 1) := by decide +kernel
theorem dX11_isDigit_1 : decode cX11_isDigit 1 = .ok (.bipush 48, 2) := by decide +kernel
theorem dX11_isDigit_3 : decode cX11_isDigit 3 = .ok (.if_icmp .lt 13, 3) := by decide +kernel
theorem dX11_isDigit_6 : decode cX11_isDigit 6 = .ok (.iload_n 0, 1) := by decide +kernel
theorem dX11_isDigit_7 : decode cX11_isDigit 7 = .ok (.bipush 57, 2) := by decide +kernel
theorem dX11_isDigit_9 : decode cX11_isDigit 9 = .ok (.if_icmp .gt 7, 3) := by decide +kernel
theorem dX11_isDigit_12 : decode cX11_isDigit 12 = .ok (.iconst 1, 1) := by decide +kernel
theorem dX11_isDigit_13 : decode cX11_isDigit 13 = .ok (.goto 4, 3) := by decide +kernel
theorem dX11_isDigit_16 : decode cX11_isDigit 16 = .ok (.iconst 0, 1) := by decide +kernel
theorem dX11_isDigit_17 : decode cX11_isDigit 17 = .ok (.ireturn, 1) := by decide +kernel
end
section
theorem jWr_22 : ∀ w ∈ wsL_law_r22, w ∈ jWl := fun w h => jT22 w (List.mem_append_left _ h)
end
section
theorem dX4_peek_0 : decode cX4_peek 0 = .ok (.aload_n 0, 1) := by decide +kernel
theorem dX4_peek_1 : decode cX4_peek 1 = .ok (.getfield 47, 3) := by decide +kernel
theorem dX4_peek_4 : decode cX4_peek 4 = .ok (.ifCond .lt 30, 3) := by decide +kernel
theorem dX4_peek_7 : decode cX4_peek 7 = .ok (.aload_n 0, 1) := by decide +kernel
theorem dX4_peek_8 : decode cX4_peek 8 = .ok (.getfield 47, 3) := by decide +kernel
theorem dX4_peek_11 : decode cX4_peek 11 = .ok (.aload_n 0, 1) := by decide +kernel
theorem dX4_peek_12 : decode cX4_peek 12 = .ok (.getfield 43, 3) := by decide +kernel
theorem dX4_peek_15 : decode cX4_peek 15 = .ok (.if_icmp .ge 19, 3) := by decide +kernel
theorem dX4_peek_18 : decode cX4_peek 18 = .ok (.aload_n 0, 1) := by decide +kernel
theorem dX4_peek_19 : decode cX4_peek 19 = .ok (.getfield 33, 3) := by decide +kernel
theorem dX4_peek_22 : decode cX4_peek 22 = .ok (.aload_n 0, 1) := by decide +kernel
theorem dX4_peek_23 : decode cX4_peek 23 = .ok (.getfield 47, 3) := by decide +kernel
theorem dX4_peek_26 : decode cX4_peek 26 = .ok (.baload, 1) := by decide +kernel
theorem dX4_peek_27 : decode cX4_peek 27 = .ok (.sipush 255, 3) := by decide +kernel
theorem dX4_peek_30 : decode cX4_peek 30 = .ok (.iand, 1) := by decide +kernel
theorem dX4_peek_31 : decode cX4_peek 31 = .ok (.goto 4, 3) := by decide +kernel
theorem dX4_peek_34 : decode cX4_peek 34 = .ok (.iconst (-1), 1) := by decide +kernel
theorem dX4_peek_35 : decode cX4_peek 35 = .ok (.ireturn, 1) := by decide +kernel
theorem dX4_make_0 : decode cX4_make 0 = .ok (.aload_n 0, 1) := by decide +kernel
theorem dX4_make_1 : decode cX4_make 1 = .ok (.getfield 50, 3) := by decide +kernel
theorem dX4_make_4 : decode cX4_make 4 = .ok (.sipush 1502, 3) := by decide +kernel
theorem dX4_make_7 : decode cX4_make 7 = .ok (.if_icmp .lt 5, 3) := by decide +kernel
theorem dX4_make_10 : decode cX4_make 10 = .ok (.iconst (-1), 1) := by decide +kernel
theorem dX4_make_11 : decode cX4_make 11 = .ok (.ireturn, 1) := by decide +kernel
theorem dX4_make_12 : decode cX4_make 12 = .ok (.aload_n 0, 1) := by decide +kernel
theorem dX4_make_13 : decode cX4_make 13 = .ok (.getfield 11, 3) := by decide +kernel
theorem dX4_make_16 : decode cX4_make 16 = .ok (.aload_n 0, 1) := by decide +kernel
theorem dX4_make_17 : decode cX4_make 17 = .ok (.getfield 50, 3) := by decide +kernel
theorem dX4_make_20 : decode cX4_make 20 = .ok (.iload_n 1, 1) := by decide +kernel
theorem dX4_make_21 : decode cX4_make 21 = .ok (.iastore, 1) := by decide +kernel
theorem dX4_make_22 : decode cX4_make 22 = .ok (.aload_n 0, 1) := by decide +kernel
theorem dX4_make_23 : decode cX4_make 23 = .ok (.getfield 15, 3) := by decide +kernel
theorem dX4_make_26 : decode cX4_make 26 = .ok (.aload_n 0, 1) := by decide +kernel
theorem dX4_make_27 : decode cX4_make 27 = .ok (.getfield 50, 3) := by decide +kernel
theorem dX4_make_30 : decode cX4_make 30 = .ok (.iload_n 2, 1) := by decide +kernel
theorem dX4_make_31 : decode cX4_make 31 = .ok (.iastore, 1) := by decide +kernel
theorem dX4_make_32 : decode cX4_make 32 = .ok (.aload_n 0, 1) := by decide +kernel
theorem dX4_make_33 : decode cX4_make 33 = .ok (.getfield 18, 3) := by decide +kernel
theorem dX4_make_36 : decode cX4_make 36 = .ok (.aload_n 0, 1) := by decide +kernel
theorem dX4_make_37 : decode cX4_make 37 = .ok (.getfield 50, 3) := by decide +kernel
theorem dX4_make_40 : decode cX4_make 40 = .ok (.iload_n 3, 1) := by decide +kernel
theorem dX4_make_41 : decode cX4_make 41 = .ok (.iastore, 1) := by decide +kernel
theorem dX4_make_42 : decode cX4_make 42 = .ok (.aload_n 0, 1) := by decide +kernel
theorem dX4_make_43 : decode cX4_make 43 = .ok (.getfield 21, 3) := by decide +kernel
theorem dX4_make_46 : decode cX4_make 46 = .ok (.aload_n 0, 1) := by decide +kernel
theorem dX4_make_47 : decode cX4_make 47 = .ok (.getfield 50, 3) := by decide +kernel
theorem dX4_make_50 : decode cX4_make 50 = .ok (.iconst (-1), 1) := by decide +kernel
theorem dX4_make_51 : decode cX4_make 51 = .ok (.iastore, 1) := by decide +kernel
theorem dX4_make_52 : decode cX4_make 52 = .ok (.aload_n 0, 1) := by decide +kernel
theorem dX4_make_53 : decode cX4_make 53 = .ok (.getfield 24, 3) := by decide +kernel
theorem dX4_make_56 : decode cX4_make 56 = .ok (.aload_n 0, 1) := by decide +kernel
theorem dX4_make_57 : decode cX4_make 57 = .ok (.getfield 50, 3) := by decide +kernel
theorem dX4_make_60 : decode cX4_make 60 = .ok (.iconst 0, 1) := by decide +kernel
theorem dX4_make_61 : decode cX4_make 61 = .ok (.iastore, 1) := by decide +kernel
theorem dX4_make_62 : decode cX4_make 62 = .ok (.aload_n 0, 1) := by decide +kernel
theorem dX4_make_63 : decode cX4_make 63 = .ok (.getfield 27, 3) := by decide +kernel
theorem dX4_make_66 : decode cX4_make 66 = .ok (.aload_n 0, 1) := by decide +kernel
theorem dX4_make_67 : decode cX4_make 67 = .ok (.getfield 50, 3) := by decide +kernel
theorem dX4_make_70 : decode cX4_make 70 = .ok (.iconst 0, 1) := by decide +kernel
theorem dX4_make_71 : decode cX4_make 71 = .ok (.iastore, 1) := by decide +kernel
theorem dX4_make_72 : decode cX4_make 72 = .ok (.aload_n 0, 1) := by decide +kernel
theorem dX4_make_73 : decode cX4_make 73 = .ok (.dup, 1) := by decide +kernel
theorem dX4_make_74 : decode cX4_make 74 = .ok (.getfield 50, 3) := by decide +kernel
theorem dX4_make_77 : decode cX4_make 77 = .ok (.iconst 1, 1) := by decide +kernel
theorem dX4_make_78 : decode cX4_make 78 = .ok (.iadd, 1) := by decide +kernel
theorem dX4_make_79 : decode cX4_make 79 = .ok (.putfield 50, 3) := by decide +kernel
theorem dX4_make_82 : decode cX4_make 82 = .ok (.aload_n 0, 1) := by decide +kernel
theorem dX4_make_83 : decode cX4_make 83 = .ok (.getfield 50, 3) := by decide +kernel
theorem dX4_make_86 : decode cX4_make 86 = .ok (.iconst 1, 1) := by decide +kernel
theorem dX4_make_87 : decode cX4_make 87 = .ok (.isub, 1) := by decide +kernel
theorem dX4_make_88 : decode cX4_make 88 = .ok (.ireturn, 1) := by decide +kernel
end
section
theorem dX4_number_0 : decode cX4_number 0 = .ok (.aload_n 0, 1) := by decide +kernel
theorem dX4_number_1 : decode cX4_number 1 = .ok (.invokevirtual 89, 3) := by decide +kernel
theorem dX4_number_4 : decode cX4_number 4 = .ok (.bipush 45, 2) := by decide +kernel
theorem dX4_number_6 : decode cX4_number 6 = .ok (.if_icmp .ne 7, 3) := by decide +kernel
theorem dX4_number_9 : decode cX4_number 9 = .ok (.iconst 1, 1) := by decide +kernel
theorem dX4_number_10 : decode cX4_number 10 = .ok (.goto 4, 3) := by decide +kernel
theorem dX4_number_13 : decode cX4_number 13 = .ok (.iconst 0, 1) := by decide +kernel
theorem dX4_number_14 : decode cX4_number 14 = .ok (.istore_n 1, 1) := by decide +kernel
theorem dX4_number_15 : decode cX4_number 15 = .ok (.iload_n 1, 1) := by decide +kernel
theorem dX4_number_16 : decode cX4_number 16 = .ok (.ifCond .eq 13, 3) := by decide +kernel
theorem dX4_number_19 : decode cX4_number 19 = .ok (.aload_n 0, 1) := by decide +kernel
theorem dX4_number_20 : decode cX4_number 20 = .ok (.dup, 1) := by decide +kernel
theorem dX4_number_21 : decode cX4_number 21 = .ok (.getfield 47, 3) := by decide +kernel
theorem dX4_number_24 : decode cX4_number 24 = .ok (.iconst 1, 1) := by decide +kernel
theorem dX4_number_25 : decode cX4_number 25 = .ok (.iadd, 1) := by decide +kernel
theorem dX4_number_26 : decode cX4_number 26 = .ok (.putfield 47, 3) := by decide +kernel
theorem dX4_number_29 : decode cX4_number 29 = .ok (.aload_n 0, 1) := by decide +kernel
theorem dX4_number_30 : decode cX4_number 30 = .ok (.getfield 47, 3) := by decide +kernel
theorem dX4_number_33 : decode cX4_number 33 = .ok (.istore_n 2, 1) := by decide +kernel
theorem dX4_number_34 : decode cX4_number 34 = .ok (.aload_n 0, 1) := by decide +kernel
theorem dX4_number_35 : decode cX4_number 35 = .ok (.invokevirtual 127, 3) := by decide +kernel
theorem dX4_number_38 : decode cX4_number 38 = .ok (.istore_n 3, 1) := by decide +kernel
theorem dX4_number_39 : decode cX4_number 39 = .ok (.iload_n 3, 1) := by decide +kernel
theorem dX4_number_40 : decode cX4_number 40 = .ok (.ifCond .eq 19, 3) := by decide +kernel
theorem dX4_number_43 : decode cX4_number 43 = .ok (.iload_n 3, 1) := by decide +kernel
theorem dX4_number_44 : decode cX4_number 44 = .ok (.iconst 1, 1) := by decide +kernel
theorem dX4_number_45 : decode cX4_number 45 = .ok (.if_icmp .le 16, 3) := by decide +kernel
theorem dX4_number_48 : decode cX4_number 48 = .ok (.aload_n 0, 1) := by decide +kernel
theorem dX4_number_49 : decode cX4_number 49 = .ok (.getfield 33, 3) := by decide +kernel
theorem dX4_number_52 : decode cX4_number 52 = .ok (.iload_n 2, 1) := by decide +kernel
theorem dX4_number_53 : decode cX4_number 53 = .ok (.baload, 1) := by decide +kernel
theorem dX4_number_54 : decode cX4_number 54 = .ok (.bipush 48, 2) := by decide +kernel
theorem dX4_number_56 : decode cX4_number 56 = .ok (.if_icmp .ne 5, 3) := by decide +kernel
theorem dX4_number_59 : decode cX4_number 59 = .ok (.iconst (-1), 1) := by decide +kernel
theorem dX4_number_60 : decode cX4_number 60 = .ok (.ireturn, 1) := by decide +kernel
theorem dX4_number_61 : decode cX4_number 61 = .ok (.iconst 1, 1) := by decide +kernel
theorem dX4_number_62 : decode cX4_number 62 = .ok (.istore 4, 2) := by decide +kernel
theorem dX4_number_64 : decode cX4_number 64 = .ok (.aload_n 0, 1) := by decide +kernel
theorem dX4_number_65 : decode cX4_number 65 = .ok (.invokevirtual 89, 3) := by decide +kernel
theorem dX4_number_68 : decode cX4_number 68 = .ok (.bipush 46, 2) := by decide +kernel
theorem dX4_number_70 : decode cX4_number 70 = .ok (.if_icmp .ne 25, 3) := by decide +kernel
theorem dX4_number_73 : decode cX4_number 73 = .ok (.iconst 0, 1) := by decide +kernel
theorem dX4_number_74 : decode cX4_number 74 = .ok (.istore 4, 2) := by decide +kernel
theorem dX4_number_76 : decode cX4_number 76 = .ok (.aload_n 0, 1) := by decide +kernel
theorem dX4_number_77 : decode cX4_number 77 = .ok (.dup, 1) := by decide +kernel
theorem dX4_number_78 : decode cX4_number 78 = .ok (.getfield 47, 3) := by decide +kernel
theorem dX4_number_81 : decode cX4_number 81 = .ok (.iconst 1, 1) := by decide +kernel
theorem dX4_number_82 : decode cX4_number 82 = .ok (.iadd, 1) := by decide +kernel
theorem dX4_number_83 : decode cX4_number 83 = .ok (.putfield 47, 3) := by decide +kernel
theorem dX4_number_86 : decode cX4_number 86 = .ok (.aload_n 0, 1) := by decide +kernel
theorem dX4_number_87 : decode cX4_number 87 = .ok (.invokevirtual 127, 3) := by decide +kernel
theorem dX4_number_90 : decode cX4_number 90 = .ok (.ifCond .ne 5, 3) := by decide +kernel
theorem dX4_number_93 : decode cX4_number 93 = .ok (.iconst (-1), 1) := by decide +kernel
theorem dX4_number_94 : decode cX4_number 94 = .ok (.ireturn, 1) := by decide +kernel
theorem dX4_number_95 : decode cX4_number 95 = .ok (.aload_n 0, 1) := by decide +kernel
theorem dX4_number_96 : decode cX4_number 96 = .ok (.invokevirtual 89, 3) := by decide +kernel
theorem dX4_number_99 : decode cX4_number 99 = .ok (.bipush 101, 2) := by decide +kernel
theorem dX4_number_101 : decode cX4_number 101 = .ok (.if_icmp .eq 12, 3) := by decide +kernel
theorem dX4_number_104 : decode cX4_number 104 = .ok (.aload_n 0, 1) := by decide +kernel
theorem dX4_number_105 : decode cX4_number 105 = .ok (.invokevirtual 89, 3) := by decide +kernel
theorem dX4_number_108 : decode cX4_number 108 = .ok (.bipush 69, 2) := by decide +kernel
theorem dX4_number_110 : decode cX4_number 110 = .ok (.if_icmp .ne 53, 3) := by decide +kernel
theorem dX4_number_113 : decode cX4_number 113 = .ok (.iconst 0, 1) := by decide +kernel
theorem dX4_number_114 : decode cX4_number 114 = .ok (.istore 4, 2) := by decide +kernel
theorem dX4_number_116 : decode cX4_number 116 = .ok (.aload_n 0, 1) := by decide +kernel
theorem dX4_number_117 : decode cX4_number 117 = .ok (.dup, 1) := by decide +kernel
theorem dX4_number_118 : decode cX4_number 118 = .ok (.getfield 47, 3) := by decide +kernel
theorem dX4_number_121 : decode cX4_number 121 = .ok (.iconst 1, 1) := by decide +kernel
theorem dX4_number_122 : decode cX4_number 122 = .ok (.iadd, 1) := by decide +kernel
theorem dX4_number_123 : decode cX4_number 123 = .ok (.putfield 47, 3) := by decide +kernel
theorem dX4_number_126 : decode cX4_number 126 = .ok (.aload_n 0, 1) := by decide +kernel
theorem dX4_number_127 : decode cX4_number 127 = .ok (.invokevirtual 89, 3) := by decide +kernel
theorem dX4_number_130 : decode cX4_number 130 = .ok (.bipush 43, 2) := by decide +kernel
theorem dX4_number_132 : decode cX4_number 132 = .ok (.if_icmp .eq 12, 3) := by decide +kernel
theorem dX4_number_135 : decode cX4_number 135 = .ok (.aload_n 0, 1) := by decide +kernel
theorem dX4_number_136 : decode cX4_number 136 = .ok (.invokevirtual 89, 3) := by decide +kernel
theorem dX4_number_139 : decode cX4_number 139 = .ok (.bipush 45, 2) := by decide +kernel
theorem dX4_number_141 : decode cX4_number 141 = .ok (.if_icmp .ne 13, 3) := by decide +kernel
theorem dX4_number_144 : decode cX4_number 144 = .ok (.aload_n 0, 1) := by decide +kernel
theorem dX4_number_145 : decode cX4_number 145 = .ok (.dup, 1) := by decide +kernel
theorem dX4_number_146 : decode cX4_number 146 = .ok (.getfield 47, 3) := by decide +kernel
theorem dX4_number_149 : decode cX4_number 149 = .ok (.iconst 1, 1) := by decide +kernel
theorem dX4_number_150 : decode cX4_number 150 = .ok (.iadd, 1) := by decide +kernel
theorem dX4_number_151 : decode cX4_number 151 = .ok (.putfield 47, 3) := by decide +kernel
theorem dX4_number_154 : decode cX4_number 154 = .ok (.aload_n 0, 1) := by decide +kernel
theorem dX4_number_155 : decode cX4_number 155 = .ok (.invokevirtual 127, 3) := by decide +kernel
theorem dX4_number_158 : decode cX4_number 158 = .ok (.ifCond .ne 5, 3) := by decide +kernel
theorem dX4_number_161 : decode cX4_number 161 = .ok (.iconst (-1), 1) := by decide +kernel
theorem dX4_number_162 : decode cX4_number 162 = .ok (.ireturn, 1) := by decide +kernel
theorem dX4_number_163 : decode cX4_number 163 = .ok (.lconst 0, 1) := by decide +kernel
theorem dX4_number_164 : decode cX4_number 164 = .ok (.lstore 5, 2) := by decide +kernel
theorem dX4_number_166 : decode cX4_number 166 = .ok (.iload_n 2, 1) := by decide +kernel
theorem dX4_number_167 : decode cX4_number 167 = .ok (.istore 7, 2) := by decide +kernel
theorem dX4_number_169 : decode cX4_number 169 = .ok (.iload 7, 2) := by decide +kernel
theorem dX4_number_171 : decode cX4_number 171 = .ok (.iload_n 2, 1) := by decide +kernel
theorem dX4_number_172 : decode cX4_number 172 = .ok (.iload_n 3, 1) := by decide +kernel
theorem dX4_number_173 : decode cX4_number 173 = .ok (.iadd, 1) := by decide +kernel
theorem dX4_number_174 : decode cX4_number 174 = .ok (.if_icmp .ge 39, 3) := by decide +kernel
theorem dX4_number_177 : decode cX4_number 177 = .ok (.lload 5, 2) := by decide +kernel
theorem dX4_number_179 : decode cX4_number 179 = .ok (.ldc2_w 130, 3) := by decide +kernel
theorem dX4_number_182 : decode cX4_number 182 = .ok (.lcmp, 1) := by decide +kernel
theorem dX4_number_183 : decode cX4_number 183 = .ok (.ifCond .gt 30, 3) := by decide +kernel
theorem dX4_number_186 : decode cX4_number 186 = .ok (.lload 5, 2) := by decide +kernel
theorem dX4_number_188 : decode cX4_number 188 = .ok (.ldc2_w 132, 3) := by decide +kernel
theorem dX4_number_191 : decode cX4_number 191 = .ok (.lmul, 1) := by decide +kernel
theorem dX4_number_192 : decode cX4_number 192 = .ok (.aload_n 0, 1) := by decide +kernel
theorem dX4_number_193 : decode cX4_number 193 = .ok (.getfield 33, 3) := by decide +kernel
theorem dX4_number_196 : decode cX4_number 196 = .ok (.iload 7, 2) := by decide +kernel
theorem dX4_number_198 : decode cX4_number 198 = .ok (.baload, 1) := by decide +kernel
theorem dX4_number_199 : decode cX4_number 199 = .ok (.i2l, 1) := by decide +kernel
theorem dX4_number_200 : decode cX4_number 200 = .ok (.ladd, 1) := by decide +kernel
theorem dX4_number_201 : decode cX4_number 201 = .ok (.ldc2_w 134, 3) := by decide +kernel
theorem dX4_number_204 : decode cX4_number 204 = .ok (.lsub, 1) := by decide +kernel
theorem dX4_number_205 : decode cX4_number 205 = .ok (.lstore 5, 2) := by decide +kernel
theorem dX4_number_207 : decode cX4_number 207 = .ok (.iinc 7 1, 3) := by decide +kernel
theorem dX4_number_210 : decode cX4_number 210 = .ok (.goto (-41), 3) := by decide +kernel
theorem dX4_number_213 : decode cX4_number 213 = .ok (.iload_n 1, 1) := by decide +kernel
theorem dX4_number_214 : decode cX4_number 214 = .ok (.ifCond .eq 9, 3) := by decide +kernel
theorem dX4_number_217 : decode cX4_number 217 = .ok (.lload 5, 2) := by decide +kernel
theorem dX4_number_219 : decode cX4_number 219 = .ok (.lneg, 1) := by decide +kernel
theorem dX4_number_220 : decode cX4_number 220 = .ok (.goto 5, 3) := by decide +kernel
theorem dX4_number_223 : decode cX4_number 223 = .ok (.lload 5, 2) := by decide +kernel
theorem dX4_number_225 : decode cX4_number 225 = .ok (.lstore 5, 2) := by decide +kernel
theorem dX4_number_227 : decode cX4_number 227 = .ok (.iload 4, 2) := by decide +kernel
theorem dX4_number_229 : decode cX4_number 229 = .ok (.ifCond .eq 25, 3) := by decide +kernel
theorem dX4_number_232 : decode cX4_number 232 = .ok (.lload 5, 2) := by decide +kernel
theorem dX4_number_234 : decode cX4_number 234 = .ok (.ldc2_w 136, 3) := by decide +kernel
theorem dX4_number_237 : decode cX4_number 237 = .ok (.lcmp, 1) := by decide +kernel
theorem dX4_number_238 : decode cX4_number 238 = .ok (.ifCond .lt 16, 3) := by decide +kernel
theorem dX4_number_241 : decode cX4_number 241 = .ok (.lload 5, 2) := by decide +kernel
theorem dX4_number_243 : decode cX4_number 243 = .ok (.ldc2_w 138, 3) := by decide +kernel
theorem dX4_number_246 : decode cX4_number 246 = .ok (.lcmp, 1) := by decide +kernel
theorem dX4_number_247 : decode cX4_number 247 = .ok (.ifCond .gt 7, 3) := by decide +kernel
theorem dX4_number_250 : decode cX4_number 250 = .ok (.iconst 1, 1) := by decide +kernel
theorem dX4_number_251 : decode cX4_number 251 = .ok (.goto 4, 3) := by decide +kernel
theorem dX4_number_254 : decode cX4_number 254 = .ok (.iconst 0, 1) := by decide +kernel
theorem dX4_number_255 : decode cX4_number 255 = .ok (.istore 4, 2) := by decide +kernel
theorem dX4_number_257 : decode cX4_number 257 = .ok (.iload 4, 2) := by decide +kernel
theorem dX4_number_259 : decode cX4_number 259 = .ok (.ifCond .eq 15, 3) := by decide +kernel
theorem dX4_number_262 : decode cX4_number 262 = .ok (.aload_n 0, 1) := by decide +kernel
theorem dX4_number_263 : decode cX4_number 263 = .ok (.iconst 4, 1) := by decide +kernel
theorem dX4_number_264 : decode cX4_number 264 = .ok (.lload 5, 2) := by decide +kernel
theorem dX4_number_266 : decode cX4_number 266 = .ok (.l2i, 1) := by decide +kernel
theorem dX4_number_267 : decode cX4_number 267 = .ok (.iconst 0, 1) := by decide +kernel
theorem dX4_number_268 : decode cX4_number 268 = .ok (.invokevirtual 104, 3) := by decide +kernel
theorem dX4_number_271 : decode cX4_number 271 = .ok (.goto 10, 3) := by decide +kernel
theorem dX4_number_274 : decode cX4_number 274 = .ok (.aload_n 0, 1) := by decide +kernel
theorem dX4_number_275 : decode cX4_number 275 = .ok (.iconst 5, 1) := by decide +kernel
theorem dX4_number_276 : decode cX4_number 276 = .ok (.iconst 0, 1) := by decide +kernel
theorem dX4_number_277 : decode cX4_number 277 = .ok (.iconst 0, 1) := by decide +kernel
theorem dX4_number_278 : decode cX4_number 278 = .ok (.invokevirtual 104, 3) := by decide +kernel
theorem dX4_number_281 : decode cX4_number 281 = .ok (.ireturn, 1) := by decide +kernel
theorem dX4_digits_0 : decode cX4_digits 0 = .ok (.aload_n 0, 1) := by decide +kernel
theorem dX4_digits_1 : decode cX4_digits 1 = .ok (.getfield 47, 3) := by decide +kernel
theorem dX4_digits_4 : decode cX4_digits 4 = .ok (.istore_n 1, 1) := by decide +kernel
theorem dX4_digits_5 : decode cX4_digits 5 = .ok (.aload_n 0, 1) := by decide +kernel
theorem dX4_digits_6 : decode cX4_digits 6 = .ok (.getfield 47, 3) := by decide +kernel
theorem dX4_digits_9 : decode cX4_digits 9 = .ok (.aload_n 0, 1) := by decide +kernel
theorem dX4_digits_10 : decode cX4_digits 10 = .ok (.getfield 43, 3) := by decide +kernel
theorem dX4_digits_13 : decode cX4_digits 13 = .ok (.if_icmp .ge 26, 3) := by decide +kernel
theorem dX4_digits_16 : decode cX4_digits 16 = .ok (.aload_n 0, 1) := by decide +kernel
theorem dX4_digits_17 : decode cX4_digits 17 = .ok (.invokevirtual 89, 3) := by decide +kernel
theorem dX4_digits_20 : decode cX4_digits 20 = .ok (.invokestatic 108, 3) := by decide +kernel
theorem dX4_digits_23 : decode cX4_digits 23 = .ok (.ifCond .eq 16, 3) := by decide +kernel
theorem dX4_digits_26 : decode cX4_digits 26 = .ok (.aload_n 0, 1) := by decide +kernel
theorem dX4_digits_27 : decode cX4_digits 27 = .ok (.dup, 1) := by decide +kernel
theorem dX4_digits_28 : decode cX4_digits 28 = .ok (.getfield 47, 3) := by decide +kernel
theorem dX4_digits_31 : decode cX4_digits 31 = .ok (.iconst 1, 1) := by decide +kernel
theorem dX4_digits_32 : decode cX4_digits 32 = .ok (.iadd, 1) := by decide +kernel
theorem dX4_digits_33 : decode cX4_digits 33 = .ok (.putfield 47, 3) := by decide +kernel
theorem dX4_digits_36 : decode cX4_digits 36 = .ok (.goto (-31), 3) := by decide +kernel
theorem dX4_digits_39 : decode cX4_digits 39 = .ok (.aload_n 0, 1) := by decide +kernel
theorem dX4_digits_40 : decode cX4_digits 40 = .ok (.getfield 47, 3) := by decide +kernel
theorem dX4_digits_43 : decode cX4_digits 43 = .ok (.iload_n 1, 1) := by decide +kernel
theorem dX4_digits_44 : decode cX4_digits 44 = .ok (.isub, 1) := by decide +kernel
theorem dX4_digits_45 : decode cX4_digits 45 = .ok (.ireturn, 1) := by decide +kernel
end
section
-- p9: what the class's methods say of JSON
section
variable {T T1 : Nat → Int → Int} {v u v1 k f z : Int} {fk fi fz fn fa fs fu gk gi gz gn ga gs gu : Nat → Int32}
end
section
variable {X : Int × Int × Int × Int × (Nat → Int → Int)} {e d r a v u a0 v0 u0 : Int} {T : Nat → Int → Int} {fk fi fz fn fa fs fu : Nat → Int32}
end
section
variable {b : Int → Int} {e a v u r a1 v1 u1 z c : Int} {T T1 : Nat → Int → Int}
end
/-- a number was read -/
def jjQn (b : Int → Int) (e a v u : Int) (T : Nat → Int → Int) (r qt qv : Int) (fk fi fz fn fa fs fu : Nat → Int32) : Prop := (r = -1 ∧ (jjNp b e a < 0 ∨ v = 1502)) ∨ (r = v ∧ qt = jjNp b e a ∧ 0 ≤ jjNp b e a ∧ qv = v + 1 ∧ ((jjNi b e a ∧ jjTC (jjMk T v 4 (jjNv b e a) 0) qv u fk fi fz fn fa fs fu) ∨ (¬ jjNi b e a ∧ jjTC (jjMk T v 5 0 0) qv u fk fi fz fn fa fs fu)))
section
variable {b : Int → Int} {e a v u r qt qv qu d c : Int} {T : Nat → Int → Int} {fk fi fz fn fa fs fu : Nat → Int32} {n : Nat}
end
theorem jjTC.mkc {T : Nat → Int → Int} {v u v1 k f z k' f' z' : Int} {fk fi fz fn fa fs fu : Nat → Int32} (h : jjTC (jjMk T v k f z) v1 u fk fi fz fn fa fs fu) (hk : k = k') (hf : f = f') (hz : z = z') : jjTC (jjMk T v k' f' z') v1 u fk fi fz fn fa fs fu := by subst hk hf hz; exact h
section
variable {b : Int → Int} {e o h : Int} {V : Int → Int → Int → (Nat → Int → Int) → Int × Int × Int × Int × (Nat → Int → Int)}
variable {k : Nat} {a v u l a1 u1 r r1 a2 v2 u2 q a3 d d1 qt qv qu : Int} {T T1 T2 : Nat → Int → Int} {X : Int × Int × Int × Int × (Nat → Int → Int)} {fk fi fz fn fa fs fu gk gi gz gn ga gs gu : Nat → Int32}
end
section
variable {b : Int → Int} {e a l1 l2 l3 l4 w w1 q : Int}
theorem jjN3.wo (h : jjN3 b e a l2 l3 l4 w) : jjNw b e a = jjV10 b l3.toNat l2 0 := by
  obtain ⟨w2, ⟨h1, h2, h3, h5, h6⟩, _⟩ := h
  unfold jjNw
  rw [← h1, ← h2, ← h3]
end
theorem jb_lm10 {x z : Int64} (e : z = x * 10) (h0 : -1000000000000 ≤ x.toInt) (h1 : x.toInt ≤ 1000000000000) : z.toInt = x.toInt * 10 := by
  rw [e, Int64.toInt_mul]
  show Int.bmod (x.toInt * 10) 18446744073709551616 = _
  unfold Int.bmod
  dsimp only
  split <;> omega
theorem jjV10_0 {b : Int → Int} {k : Nat} {a v w : Int} (h : jjV10 b k a v = w) (hk : k = 0) : v = w := by subst hk; exact h
theorem jjV10_g {b : Int → Int} {k : Nat} {a v w : Int} (h : jjV10 b k a v = w) (h0 : 0 ≤ v) (hd : ∀ j : Int, a ≤ j → j < a + k → 48 ≤ b j) : v ≤ w := by rw [← h]; exact jjV10.ge k a v h0 hd
theorem jjV10_n {b : Int → Int} {k k1 : Nat} {a v w a1 v1 c : Int} (h : jjV10 b k a v = w) (hk : k = k1 + 1) (ha : a1 = a + 1) (hc : c = b a) (hv : v1 = v * 10 + c - 48) : jjV10 b k1 a1 v1 = w := by subst hk ha hc hv; exact h
section
variable {b : Int → Int} {e a d w r r1 v u q v0 u0 : Int} {fk fi fz fn fa fs fu : Nat → Int32} {T0 : Nat → Int → Int}
end
end
section
def EX11_isDigitJ : List (Nat × Nat) := []
def EX4_peekJ : List (Nat × Nat) := []
def EX4_digitsJ : List (Nat × Nat) := [(6, 11)]
set_option maxHeartbeats 4000000 in
set_option maxRecDepth 20000 in
theorem uX11_isDigitJ (l : Launch) (dC : Nat → ClassId) (dI : Nat → Nat → Nat) (ca : Nat → ClassId) (base : Nat) (B : jF) (hB : jBok B) (hAp : jAp (dC, dI)) (G0 : jT) (H0 : Heap) (a0 : Int32) : Met l yX11_isDigit (jw yX11_isDigit cX11_isDigit 1 (some .boolean)) ({ frames := 0, cells := 0, slots := 0, locals := 0 }) (va_Pc [.int a0] (fun U => U.heap = H0 ∧ jX B base G0 [] H0 ∧ jG dC dI ca base U ∧ jP (dC, dI) G0 H0 [] ∧ True)) (va_Qi (S := Unit) (fun r u => (r = 0 ∨ r = 1) ∧ ((r.toInt = 1 ∧ 48 ≤ a0.toInt ∧ a0.toInt ≤ 57) ∨ (r.toInt = 0 ∧ (a0.toInt < 48 ∨ 57 < a0.toInt)))) (fun u t => jRt (dC, dI) B base G0 EX11_isDigitJ H0 [] t.heap) (jA base)) 0 0 (jA base) := by
  refine Met.ofW (cc := cX11_isDigit) (maxL := 1) (ret := (some .boolean)) (by decide) rfl ?_
  intro p e s m args below meth c s₁ Bd hml hv
  obtain ⟨rfl, hH0, hX, hG, hP0, hp0⟩ := hv
  have hK := hG.1
  have hx := Bd.exec
  have hb := Bd.bytes
  have hr := Bd.returns
  have hts := atoms_spec (ws := (jw yX11_isDigit cX11_isDigit 1 (some .boolean))) Bd.pre
  have htw : ∀ w ∈ jWl, w.before _ s = true := fun w h => hts w (List.mem_cons_of_mem _ h)
  have hown : s.vm.findClass RX11 = some m.cls := findClass_of_methodNamed Bd.named
  have hlocks := Bd.notSynchronized
  obtain ⟨Q, hQ⟩ : ∃ Q, Q = MQ below (va_Qi (S := Unit) (fun r u => (r = 0 ∨ r = 1) ∧ ((r.toInt = 1 ∧ 48 ≤ a0.toInt ∧ a0.toInt ≤ 57) ∨ (r.toInt = 0 ∧ (a0.toInt < 48 ∨ 57 < a0.toInt)))) (fun u t => jRt (dC, dI) B base G0 EX11_isDigitJ H0 [] t.heap) (jA base)) ([.int a0] : List Value).toArray s 0 0 (jA base) := ⟨_, rfl⟩
  rw [← hQ]
  have hl := lv_entry ([.int a0]) (n := 1) (Nat.le_of_ble_eq_true rfl)
  rw [lg_entry_eq]
  generalize (lg_sl ([.int a0]) ++ List.replicate (1 - (lg_sl ([.int a0])).length) Slot.unset).toArray = ls at hl ⊢
  have hl : lv_has ls 1 [(0, .int a0)] := hl
  generalize hR : (headSpec (jw yX11_isDigit cX11_isDigit 1 (some .boolean)) ({ frames := 0, cells := 0, slots := 0, locals := 0 })).room = R
  subst hH0
  have hh : jSt (dC, dI) B base G0 G0 EX11_isDigitJ s.heap 0 0 [] [] [] s.heap [] := jSt.start hX hP0 jMc.nil jIs.nil
  clear hX hP0
  have hk0 : (0 : Int32).toInt = 0 := by decide
  have hk1 : (1 : Int32).toInt = 1 := by decide
  have hk48 : (48 : Int32).toInt = 48 := by decide
  have hk57 : (57 : Int32).toInt = 57 := by decide
  have hrg_a0 := jb_rng a0
  refine lv_iload_n hx hb dX11_isDigit_0 rfl (lv_at hl 0 rfl) ?_
  refine lv_bipush (v := 48) hx hb dX11_isDigit_1 (by decide) ?_
  refine lv_icmp_lt (tgt := 16) hx hb dX11_isDigit_3 (by decide) (fun c_1 => ?_) (fun c_1 => ?_)
  · skip
    have c_1' : a0.toInt < 48 := jb_lt (rfl) ((by decide)) c_1
    refine lv_iconst (v := 0) hx hb dX11_isDigit_16 (by decide) ?_
    rw [hQ]
    exact W.zret (v := 0) hx hb hr (jb_nz (Or.inl rfl)) (fun t ht hW => ⟨⟨0, (), rfl, ⟨(Or.inl rfl), by first | omega | rfl | assumption | decide | exact Or.inl rfl | exact Or.inr rfl | (simp only; omega)⟩, hh.rt (M1 := []) [] rfl ht⟩, by rw [ht]; try exact hh.1.1, fun q h9 hq => by rw [ht]; try exact hh.1.2.1 q h9 hq⟩) hh.1.2.2 dX11_isDigit_17
  · skip
    have c_1' : a0.toInt ≥ 48 := jb_lt_n (rfl) ((by decide)) c_1
    refine lv_iload_n hx hb dX11_isDigit_6 rfl (lv_at hl 0 rfl) ?_
    refine lv_bipush (v := 57) hx hb dX11_isDigit_7 (by decide) ?_
    refine lv_icmp_gt (tgt := 16) hx hb dX11_isDigit_9 (by decide) (fun c_2 => ?_) (fun c_2 => ?_)
    · skip
      have c_2' : a0.toInt > 57 := jb_gt (rfl) ((by decide)) c_2
      refine lv_iconst (v := 0) hx hb dX11_isDigit_16 (by decide) ?_
      rw [hQ]
      exact W.zret (v := 0) hx hb hr (jb_nz (Or.inl rfl)) (fun t ht hW => ⟨⟨0, (), rfl, ⟨(Or.inl rfl), by first | omega | rfl | assumption | decide | exact Or.inl rfl | exact Or.inr rfl | (simp only; omega)⟩, hh.rt (M1 := []) [] rfl ht⟩, by rw [ht]; try exact hh.1.1, fun q h9 hq => by rw [ht]; try exact hh.1.2.1 q h9 hq⟩) hh.1.2.2 dX11_isDigit_17
    · skip
      have c_2' : a0.toInt ≤ 57 := jb_gt_n (rfl) ((by decide)) c_2
      refine lv_iconst (v := 1) hx hb dX11_isDigit_12 (by decide) ?_
      refine lv_goto (tgt := 17) hx hb dX11_isDigit_13 (by decide) ?_
      rw [hQ]
      exact W.zret (v := 1) hx hb hr (jb_nz (Or.inr rfl)) (fun t ht hW => ⟨⟨1, (), rfl, ⟨(Or.inr rfl), by first | omega | rfl | assumption | decide | exact Or.inl rfl | exact Or.inr rfl | (simp only; omega)⟩, hh.rt (M1 := []) [] rfl ht⟩, by rw [ht]; try exact hh.1.1, fun q h9 hq => by rw [ht]; try exact hh.1.2.1 q h9 hq⟩) hh.1.2.2 dX11_isDigit_17
set_option maxHeartbeats 4000000 in
set_option maxRecDepth 20000 in
theorem uX4_peekJ (l : Launch) (dC : Nat → ClassId) (dI : Nat → Nat → Nat) (ca : Nat → ClassId) (base : Nat) (B : jF) (hB : jBok B) (hAp : jAp (dC, dI)) (hB6 : ∀ n G a H, B 6 n G a H ↔ jOb (dC, dI) 6 12 (F6 n G) a H) (hB100 : ∀ n G a H, B 100 n G a H ↔ jAr (dC, dI) (ca 0) (fun j z => True) n a H) (G0 : jT) (H0 : Heap) (r0 : Nat) (rb : Nat) (n_rb : Nat) (pe : Int32) (pt : Int32) (fb : Nat → Int32) : Met l yX4_peek (jw yX4_peek cX4_peek 1 (some .int)) ({ frames := 0, cells := 0, slots := 0, locals := 0 }) (va_Pc [.ref r0] (fun U => U.heap = H0 ∧ jX B base G0 [] H0 ∧ jG dC dI ca base U ∧ G0 r0 = some (6, 0) ∧ G0 rb = some (100, n_rb) ∧ jP (dC, dI) G0 H0 [(r0, 6, 9, .ref rb), (r0, 6, 10, .int pe), (r0, 6, 11, .int pt)] ∧ jMc (dC, dI) G0 H0 [(rb, 100, n_rb, ca 0, fb)] ∧ 0 ≤ pe.toInt ∧ pe.toInt ≤ n_rb ∧ n_rb ≤ 3000 ∧ 0 ≤ pt.toInt ∧ pt.toInt ≤ 19000)) (va_Qi (S := Unit) (fun r u => (r.toInt = jjK (jB8 fb) pe.toInt pt.toInt ∧ -1 ≤ r.toInt ∧ r.toInt ≤ 255)) (fun u t => jRt (dC, dI) B base G0 EX4_peekJ H0 [] t.heap) (jA base)) 0 0 (jA base) := by
  refine Met.ofW (cc := cX4_peek) (maxL := 1) (ret := (some .int)) (by decide) rfl ?_
  intro p e s m args below meth c s₁ Bd hml hv
  obtain ⟨rfl, hH0, hX, hG, hg_r0, hg_rb, hP0, hM0, hp0, hp1, hp2, hp3, hp4⟩ := hv
  have hK := hG.1
  have hx := Bd.exec
  have hb := Bd.bytes
  have hr := Bd.returns
  have hts := atoms_spec (ws := (jw yX4_peek cX4_peek 1 (some .int))) Bd.pre
  have htw : ∀ w ∈ jWl, w.before _ s = true := fun w h => hts w (List.mem_cons_of_mem _ h)
  have hown : s.vm.findClass RX4 = some m.cls := findClass_of_methodNamed Bd.named
  have hlocks := Bd.notSynchronized
  obtain ⟨Q, hQ⟩ : ∃ Q, Q = MQ below (va_Qi (S := Unit) (fun r u => (r.toInt = jjK (jB8 fb) pe.toInt pt.toInt ∧ -1 ≤ r.toInt ∧ r.toInt ≤ 255)) (fun u t => jRt (dC, dI) B base G0 EX4_peekJ H0 [] t.heap) (jA base)) ([.ref r0] : List Value).toArray s 0 0 (jA base) := ⟨_, rfl⟩
  rw [← hQ]
  have hl := lv_entry ([.ref r0]) (n := 1) (Nat.le_of_ble_eq_true rfl)
  rw [lg_entry_eq]
  generalize (lg_sl ([.ref r0]) ++ List.replicate (1 - (lg_sl ([.ref r0])).length) Slot.unset).toArray = ls at hl ⊢
  have hl : lv_has ls 1 [(0, .ref r0)] := hl
  generalize hR : (headSpec (jw yX4_peek cX4_peek 1 (some .int)) ({ frames := 0, cells := 0, slots := 0, locals := 0 })).room = R
  subst hH0
  have hh : jSt (dC, dI) B base G0 G0 EX4_peekJ s.heap 0 0 [(r0, 6, 9, .ref rb), (r0, 6, 10, .int pe), (r0, 6, 11, .int pt)] [(rb, 100, n_rb, ca 0, fb)] [] s.heap [] := jSt.start hX hP0 hM0 jIs.nil
  clear hX hP0
  have hkm1 : ((-1) : Int32).toInt = (-1) := by decide
  have hk0 : (0 : Int32).toInt = 0 := by decide
  have hk1 : (1 : Int32).toInt = 1 := by decide
  have hk255 : (255 : Int32).toInt = 255 := by decide
  have hly_6_9 := htw (u_lay RX4 TX4 9) (jWc_wsX40 _ (u_in_lay (by decide)))
  have hly_6_10 := htw (u_lay RX4 TX4 10) (jWc_wsX40 _ (u_in_lay (by decide)))
  have hly_6_11 := htw (u_lay RX4 TX4 11) (jWc_wsX40 _ (u_in_lay (by decide)))
  have hlk_47 := (htw (.fieldLink RX4 47 "ProofServer$Json" "at" "I") (jWr_19 _ (List.mem_of_getElem? (i := 12) rfl)))
  have hlk_43 := (htw (.fieldLink RX4 43 "ProofServer$Json" "end" "I") (jWr_19 _ (List.mem_of_getElem? (i := 11) rfl)))
  have hlk_33 := (htw (.fieldLink RX4 33 "ProofServer$Json" "bytes" "[B") (jWr_4 _ (List.mem_of_getElem? (i := 4) rfl)))
  refine lv_aload_n hx hb dX4_peek_0 rfl (lv_at hl 0 rfl) ?_
  refine j7_read hx hb hown hK (C := RX4) (T := TX4) (N := 12) rfl hly_6_11 hlk_47 (hh.at 2 rfl) dX4_peek_1 ?_
  refine lv_if_lt (tgt := 34) hx hb dX4_peek_4 (by decide) (fun c_1 => ?_) (fun c_1 => ?_)
  · skip
    have c_1' : pt.toInt < 0 := jb_lt (rfl) ((by decide)) c_1
    refine lv_iconst (v := (-1)) hx hb dX4_peek_34 (by decide) ?_
    rw [hQ]
    exact W.iret (v := (-1)) hx hb hr (fun t ht hW => ⟨⟨(-1), (), rfl, by refine ⟨?_, by omega, by omega⟩; rw [jjK.n (by omega)]; exact hkm1, hh.rt (M1 := []) [] rfl ht⟩, by rw [ht]; try exact hh.1.1, fun q h9 hq => by rw [ht]; try exact hh.1.2.1 q h9 hq⟩) hh.1.2.2 dX4_peek_35
  · skip
    have c_1' : pt.toInt ≥ 0 := jb_lt_n (rfl) ((by decide)) c_1
    refine lv_aload_n hx hb dX4_peek_7 rfl (lv_at hl 0 rfl) ?_
    refine j7_read hx hb hown hK (C := RX4) (T := TX4) (N := 12) rfl hly_6_11 hlk_47 (hh.at 2 rfl) dX4_peek_8 ?_
    refine lv_aload_n hx hb dX4_peek_11 rfl (lv_at hl 0 rfl) ?_
    refine j7_read hx hb hown hK (C := RX4) (T := TX4) (N := 12) rfl hly_6_10 hlk_43 (hh.at 1 rfl) dX4_peek_12 ?_
    refine lv_icmp_ge (tgt := 34) hx hb dX4_peek_15 (by decide) (fun c_2 => ?_) (fun c_2 => ?_)
    · skip
      have c_2' : pt.toInt ≥ pe.toInt := jb_ge (rfl) (rfl) c_2
      refine lv_iconst (v := (-1)) hx hb dX4_peek_34 (by decide) ?_
      rw [hQ]
      exact W.iret (v := (-1)) hx hb hr (fun t ht hW => ⟨⟨(-1), (), rfl, by refine ⟨?_, by omega, by omega⟩; rw [jjK.n (by omega)]; exact hkm1, hh.rt (M1 := []) [] rfl ht⟩, by rw [ht]; try exact hh.1.1, fun q h9 hq => by rw [ht]; try exact hh.1.2.1 q h9 hq⟩) hh.1.2.2 dX4_peek_35
    · skip
      have c_2' : pt.toInt < pe.toInt := jb_ge_n (rfl) (rfl) c_2
      refine lv_aload_n hx hb dX4_peek_18 rfl (lv_at hl 0 rfl) ?_
      refine j7_read hx hb hown hK (C := RX4) (T := TX4) (N := 12) rfl hly_6_9 hlk_33 (hh.at 0 rfl) dX4_peek_19 ?_
      refine lv_aload_n hx hb dX4_peek_22 rfl (lv_at hl 0 rfl) ?_
      refine j7_read hx hb hown hK (C := RX4) (T := TX4) (N := 12) rfl hly_6_11 hlk_47 (hh.at 2 rfl) dX4_peek_23 ?_
      refine j7_baldM hx hb hK hh hB100 0 rfl (by decide) hg_rb (x := pt.toInt) (rfl) (by omega) (j := 0) rfl dX4_peek_26 (fun z_3 ez_3 (hz_3 : True) => ?_)
      have hqz_3 : z_3.toInt = jSo fb (pt.toInt) := by unfold jSo; rw [ez_3]
      refine lv_sipush (v := 255) hx hb dX4_peek_27 (by decide) ?_
      refine lv_iand hx hb dX4_peek_30 ?_
      refine lv_topi (fun z_4 ez_4 => ?_)
      have hz_4 : 0 ≤ z_4.toInt ∧ z_4.toInt ≤ 255 := by rw [ez_4]; exact jb_and z_3 (m := 255) (k := 8) (by decide) (by decide)
      refine lv_goto (tgt := 35) hx hb dX4_peek_31 (by decide) ?_
      rw [hQ]
      exact W.iret (v := z_4) hx hb hr (fun t ht hW => ⟨⟨z_4, (), rfl, by refine ⟨?_, by omega, by omega⟩; rw [jjK.y (by omega)]; exact (jb_a255 ez_4).trans (by rw [hqz_3]; rfl), hh.rt (M1 := []) [] rfl ht⟩, by rw [ht]; try exact hh.1.1, fun q h9 hq => by rw [ht]; try exact hh.1.2.1 q h9 hq⟩) hh.1.2.2 dX4_peek_35
set_option maxHeartbeats 4000000 in
set_option maxRecDepth 20000 in
theorem uX4_digitsJ (l : Launch) (dC : Nat → ClassId) (dI : Nat → Nat → Nat) (ca : Nat → ClassId) (base : Nat) (B : jF) (hB : jBok B) (hAp : jAp (dC, dI)) (hB6 : ∀ n G a H, B 6 n G a H ↔ jOb (dC, dI) 6 12 (F6 n G) a H) (hB100 : ∀ n G a H, B 100 n G a H ↔ jAr (dC, dI) (ca 0) (fun j z => True) n a H) (G0 : jT) (H0 : Heap) (r0 : Nat) (rb : Nat) (n_rb : Nat) (pe : Int32) (pt : Int32) (fb : Nat → Int32) : Met l yX4_digits (jw yX4_digits cX4_digits 2 (some .int)) ({ frames := 1, cells := 0, slots := 0, locals := 20 }) (va_Pc [.ref r0] (fun U => U.heap = H0 ∧ jX B base G0 [] H0 ∧ jG dC dI ca base U ∧ G0 r0 = some (6, 0) ∧ G0 rb = some (100, n_rb) ∧ jP (dC, dI) G0 H0 [(r0, 6, 9, .ref rb), (r0, 6, 10, .int pe), (r0, 6, 11, .int pt)] ∧ jMc (dC, dI) G0 H0 [(rb, 100, n_rb, ca 0, fb)] ∧ 0 ≤ pe.toInt ∧ pe.toInt ≤ n_rb ∧ n_rb ≤ 3000 ∧ 0 ≤ pt.toInt ∧ pt.toInt ≤ 19000 ∧ pt.toInt ≤ pe.toInt)) (va_Qi (S := Int32) (fun r u => (u.toInt = jjDg (jB8 fb) pe.toInt pt.toInt ∧ r.toInt = u.toInt - pt.toInt ∧ pt.toInt ≤ u.toInt ∧ u.toInt ≤ pe.toInt)) (fun u t => jRt (dC, dI) B base G0 EX4_digitsJ H0 [(r0, 6, 11, .int u)] t.heap) (jA base)) 0 0 (jA base) := by
  refine Met.ofW (cc := cX4_digits) (maxL := 2) (ret := (some .int)) (by decide) rfl ?_
  intro p e s m args below meth c s₁ Bd hml hv
  obtain ⟨rfl, hH0, hX, hG, hg_r0, hg_rb, hP0, hM0, hp0, hp1, hp2, hp3, hp4, hp5⟩ := hv
  have hK := hG.1
  have hx := Bd.exec
  have hb := Bd.bytes
  have hr := Bd.returns
  have hts := atoms_spec (ws := (jw yX4_digits cX4_digits 2 (some .int))) Bd.pre
  have htw : ∀ w ∈ jWl, w.before _ s = true := fun w h => hts w (List.mem_cons_of_mem _ h)
  have hown : s.vm.findClass RX4 = some m.cls := findClass_of_methodNamed Bd.named
  have hlocks := Bd.notSynchronized
  obtain ⟨Q, hQ⟩ : ∃ Q, Q = MQ below (va_Qi (S := Int32) (fun r u => (u.toInt = jjDg (jB8 fb) pe.toInt pt.toInt ∧ r.toInt = u.toInt - pt.toInt ∧ pt.toInt ≤ u.toInt ∧ u.toInt ≤ pe.toInt)) (fun u t => jRt (dC, dI) B base G0 EX4_digitsJ H0 [(r0, 6, 11, .int u)] t.heap) (jA base)) ([.ref r0] : List Value).toArray s 0 0 (jA base) := ⟨_, rfl⟩
  rw [← hQ]
  have hl := lv_entry ([.ref r0]) (n := 2) (Nat.le_of_ble_eq_true rfl)
  rw [lg_entry_eq]
  generalize (lg_sl ([.ref r0]) ++ List.replicate (2 - (lg_sl ([.ref r0])).length) Slot.unset).toArray = ls at hl ⊢
  have hl : lv_has ls 2 [(0, .ref r0)] := hl
  generalize hR : (headSpec (jw yX4_digits cX4_digits 2 (some .int)) ({ frames := 1, cells := 0, slots := 0, locals := 20 })).room = R
  subst hH0
  have hh : jSt (dC, dI) B base G0 G0 EX4_digitsJ s.heap 0 0 [(r0, 6, 9, .ref rb), (r0, 6, 10, .int pe), (r0, 6, 11, .int pt)] [(rb, 100, n_rb, ca 0, fb)] [] s.heap [] := jSt.start hX hP0 hM0 jIs.nil
  clear hX hP0
  have hk0 : (0 : Int32).toInt = 0 := by decide
  have hk1 : (1 : Int32).toInt = 1 := by decide
  have hly_6_10 := htw (u_lay RX4 TX4 10) (jWc_wsX40 _ (u_in_lay (by decide)))
  have hly_6_11 := htw (u_lay RX4 TX4 11) (jWc_wsX40 _ (u_in_lay (by decide)))
  have hlk_47 := (htw (.fieldLink RX4 47 "ProofServer$Json" "at" "I") (jWr_19 _ (List.mem_of_getElem? (i := 12) rfl)))
  have hlk_43 := (htw (.fieldLink RX4 43 "ProofServer$Json" "end" "I") (jWr_19 _ (List.mem_of_getElem? (i := 11) rfl)))
  refine lv_aload_n hx hb dX4_digits_0 rfl (lv_at hl 0 rfl) ?_
  refine j7_read hx hb hown hK (C := RX4) (T := TX4) (N := 12) rfl hly_6_11 hlk_47 (hh.at 2 rfl) dX4_digits_1 ?_
  refine lv_istore_n (lv' := [(1, .int pt), (0, .ref r0)]) hx hb dX4_digits_4 rfl hl (by decide) rfl (fun ls hl => ?_)
  have L5 : ∀ (N : Nat) (wt_1 : Int32) (kf : Nat) (H_1 : Heap) (locs_1 : List Loc), jSt (dC, dI) B base G0 G0 EX4_digitsJ s.heap 0 0 [(r0, 6, 11, .int wt_1), (r0, 6, 9, .ref rb), (r0, 6, 10, .int pe)] [(rb, 100, n_rb, ca 0, fb)] [] H_1 locs_1 → (pt.toInt ≤ wt_1.toInt ∧ wt_1.toInt ≤ pe.toInt ∧ pe.toInt - wt_1.toInt ≤ kf ∧ jjD (jB8 fb) pe.toInt kf wt_1.toInt = jjDg (jB8 fb) pe.toInt pt.toInt) → (pe.toInt - wt_1.toInt : Int) < N → ∀ ls : Array Slot, lv_has ls 2 [(0, .ref r0), (1, .int pt)] → W p l e R s m ([.ref r0] : List Value).toArray below meth c H_1 locs_1 0 0 Q (F0 m 5 ls []) := by
    intro N
    induction N with
    | zero => intro wt_1 kf H_1 locs_1 hh_1  hi_1 hm; exact absurd hm (by omega)
    | succ N L5 =>
      intro wt_1 kf H_1 locs_1 hh_1  hi_1 hm_1 ls hl
      obtain ⟨hi_1_0, hi_1_1, hi_1_2, hi_1_3⟩ := hi_1
      refine lv_aload_n hx hb dX4_digits_5 rfl (lv_at hl 0 rfl) ?_
      refine j7_read hx hb hown hK (C := RX4) (T := TX4) (N := 12) rfl hly_6_11 hlk_47 (hh_1.at 0 rfl) dX4_digits_6 ?_
      refine lv_aload_n hx hb dX4_digits_9 rfl (lv_at hl 0 rfl) ?_
      refine j7_read hx hb hown hK (C := RX4) (T := TX4) (N := 12) rfl hly_6_10 hlk_43 (hh_1.at 2 rfl) dX4_digits_10 ?_
      refine lv_icmp_ge (tgt := 39) hx hb dX4_digits_13 (by decide) (fun c_2 => ?_) (fun c_2 => ?_)
      · skip
        have c_2' : wt_1.toInt ≥ pe.toInt := jb_ge (rfl) (rfl) c_2
        refine lv_aload_n hx hb dX4_digits_39 rfl (lv_at hl 0 rfl) ?_
        refine j7_read hx hb hown hK (C := RX4) (T := TX4) (N := 12) rfl hly_6_11 hlk_47 (hh_1.at 0 rfl) dX4_digits_40 ?_
        refine lv_iload_n hx hb dX4_digits_43 rfl (lv_at hl 1 rfl) ?_
        refine lv_isub hx hb dX4_digits_44 ?_
        refine lv_topi (fun z_3 ez_3 => ?_)
        have hz_3 : z_3.toInt = wt_1.toInt - pt.toInt := by rw [ez_3]; exact jb_isub2 (rfl) (rfl) (by omega)
        rw [hQ]
        exact W.iret (v := z_3) hx hb hr (fun t ht hW => ⟨⟨z_3, wt_1, rfl, by (try dsimp only); refine ⟨?_, by omega, by omega, by omega⟩; exact (jjD_n (Or.inl (by omega))).symm.trans hi_1_3, hh_1.rt (M1 := [(r0, 6, 11, .int wt_1)]) [0] rfl ht⟩, by rw [ht]; try exact hh_1.1.1, fun q h9 hq => by rw [ht]; try exact hh_1.1.2.1 q h9 hq⟩) hh_1.1.2.2 dX4_digits_45
      · skip
        have c_2' : wt_1.toInt < pe.toInt := jb_ge_n (rfl) (rfl) c_2
        refine lv_aload_n hx hb dX4_digits_16 rfl (lv_at hl 0 rfl) ?_
        refine va_calli (A0 := jA base) (H0 := s.heap) (va_runV (As := []) (rest := []) ⟨hx, hb, hml, hown, hts⟩ (uX4_peekJ l dC dI ca base B hB hAp hB6 hB100 G0 H_1 r0 rb n_rb pe wt_1 fb) (cwV 0 hts (jgV (jWr_19 _ (List.mem_of_getElem? (i := 19) rfl)) (jWr_19 _ (List.mem_of_getElem? (i := 20) rfl)) (jWr_19 _ (List.mem_of_getElem? (i := 21) rfl)) (jWr_1 _ (List.mem_of_getElem? (i := 22) rfl)) (jWr_19 _ (List.mem_of_getElem? (i := 22) rfl))) rfl rfl rfl (by decide +kernel) ⟨by rw [← hR]; exact Nat.le_of_ble_eq_true rfl, by rw [← hR]; exact Nat.le_of_ble_eq_true rfl⟩) ⟨fun a U g mk q => by obtain ⟨q0, q1, q2, qK, q10, q11, q12, q13, q14⟩ := q; exact ⟨q0, q1, q2, jG.calling g mk a qK, q10, q11, q12, q13, q14⟩, hh_1.recv (C := RX4) (T := TX4) (N := 12) hB6 rfl (by decide) hg_r0 hK, fun U hU hW => ⟨rfl, hU, hh_1.2.1, hG.step hW hU hh_1.1, hg_r0, hg_rb, (hh_1.2.2.1.sub (L1 := [(r0, 6, 9, .ref rb), (r0, 6, 10, .int pe), (r0, 6, 11, .int wt_1)]) [1, 2, 0] rfl), (hh_1.2.2.2.2.2.2.2.1.sub (L1 := [(rb, 100, n_rb, ca 0, fb)]) [0] rfl), by first | omega | (refine ⟨?_, ?_, ?_, ?_, ?_⟩ <;> (first | omega | rfl | assumption | decide | exact Or.inl rfl | exact Or.inr rfl | (simp only; omega)))⟩⟩ rfl rfl hl.1 rfl (lv_room (Nat.le_of_ble_eq_true rfl)) dX4_digits_17 ⟨Nat.zero_le _, Nat.zero_le _⟩) hh_1.1 (fun q _ h => h) (fun q h => h) (fun r_5 u_4 t_4 H_4 locs_4 ht_4 hvm_4 hr_5 hb_4 hz_4 hk_4 hS_4 => ?_)
        rw [ht_4] at hb_4
        obtain ⟨hb_41, hb_42, hb_43, hb_44, hb_45⟩ := hb_4
        have hh_4 : jSt (dC, dI) B base G0 G0 EX4_digitsJ s.heap 0 0 [(r0, 6, 11, .int wt_1), (r0, 6, 9, .ref rb), (r0, 6, 10, .int pe)] [(rb, 100, n_rb, ca 0, fb)] [] H_4 locs_4 := ((hh_1.call hb_41 hb_42 hb_43 hb_44 hS_4 rfl (L1 := [(r0, 6, 11, .int wt_1), (r0, 6, 9, .ref rb), (r0, 6, 10, .int pe)]) [0, 1, 2] rfl rfl (M1 := [(rb, 100, n_rb, ca 0, fb)]) [0] rfl rfl (I1 := []) [] rfl rfl).more hb_45)
        clear hh_1 ht_4 hvm_4 hz_4 hk_4 hS_4 hb_41 hb_42 hb_43 hb_44 hb_45
        obtain ⟨hr_5_0, hr_5_1, hr_5_2⟩ := hr_5
        refine va_calli (A0 := jA base) (H0 := s.heap) (va_runSN (As := [.int r_5]) (rest := []) ⟨hx, hb, hml, hown, hts⟩ (uX11_isDigitJ l dC dI ca base B hB hAp G0 H_4 r_5) ⟨va_cnB 1 hts (jgW (jWr_22 _ (List.mem_of_getElem? (i := 15) rfl))) rfl rfl rfl (hG.2.2.1 RX4 108 yX11_isDigit "ProofServer" (List.mem_of_getElem? (i := 711) (by decide +kernel))) (htw (.initialized RX11) (jWr_1 _ (List.mem_of_getElem? (i := 2) rfl))) (by decide +kernel) ⟨by rw [← hR]; exact Nat.le_of_ble_eq_true rfl, by rw [← hR]; exact Nat.le_of_ble_eq_true rfl⟩, htw (.static yX11_isDigit) (jWr_22 _ (List.mem_of_getElem? (i := 14) rfl)), trivial⟩ ⟨fun a U g mk q => by obtain ⟨q0, q1, q2, qK, q10, q11⟩ := q; exact ⟨q0, q1, q2, jG.calling g mk a qK, q10, q11⟩, fun U hU hW => ⟨rfl, hU, hh_4.2.1, hG.step hW hU hh_4.1, jP.nil, trivial⟩⟩ rfl rfl hl.1 rfl (lv_room (Nat.le_of_ble_eq_true rfl)) dX4_digits_20 ⟨Nat.zero_le _, Nat.zero_le _⟩) hh_4.1 (fun q _ h => h) (fun q h => h) (fun r_7 u_6 t_6 H_6 locs_6 ht_6 hvm_6 hr_7 hb_6 hz_6 hk_6 hS_6 => ?_)
        rw [ht_6] at hb_6
        obtain ⟨hb_61, hb_62, hb_63, hb_64, hb_65⟩ := hb_6
        have hh_6 : jSt (dC, dI) B base G0 G0 EX4_digitsJ s.heap 0 0 [(r0, 6, 11, .int wt_1), (r0, 6, 9, .ref rb), (r0, 6, 10, .int pe)] [(rb, 100, n_rb, ca 0, fb)] [] H_6 locs_6 := ((hh_4.call hb_61 hb_62 hb_63 hb_64 hS_6 rfl (L1 := [(r0, 6, 11, .int wt_1), (r0, 6, 9, .ref rb), (r0, 6, 10, .int pe)]) [0, 1, 2] rfl rfl (M1 := [(rb, 100, n_rb, ca 0, fb)]) [0] rfl rfl (I1 := []) [] rfl rfl).more hb_65)
        clear hh_4 ht_6 hvm_6 hz_6 hk_6 hS_6 hb_61 hb_62 hb_63 hb_64 hb_65
        obtain ⟨hr_7b, hr_7p⟩ := hr_7
        have hr_7' := jb_01 hr_7b
        refine lv_if_eq (tgt := 39) hx hb dX4_digits_23 (by decide) (fun c_8 => ?_) (fun c_8 => ?_)
        · skip
          have c_8' : r_7.toInt = 0 := jb_eq (rfl) ((by decide)) c_8
          first | (have hr_7pq := hr_7p.resolve_left (by omega); clear hr_7p) | (have hr_7pq := hr_7p.resolve_right (by omega); clear hr_7p) | try clear hr_7p
          refine lv_aload_n hx hb dX4_digits_39 rfl (lv_at hl 0 rfl) ?_
          refine j7_read hx hb hown hK (C := RX4) (T := TX4) (N := 12) rfl hly_6_11 hlk_47 (hh_6.at 0 rfl) dX4_digits_40 ?_
          refine lv_iload_n hx hb dX4_digits_43 rfl (lv_at hl 1 rfl) ?_
          refine lv_isub hx hb dX4_digits_44 ?_
          refine lv_topi (fun z_9 ez_9 => ?_)
          have hz_9 : z_9.toInt = wt_1.toInt - pt.toInt := by rw [ez_9]; exact jb_isub2 (rfl) (rfl) (by omega)
          rw [hQ]
          exact W.iret (v := z_9) hx hb hr (fun t ht hW => ⟨⟨z_9, wt_1, rfl, by (try dsimp only); refine ⟨?_, by omega, by omega, by omega⟩; exact (jjD_n (Or.inr (by have h9 := jjK.y (b := jB8 fb) (e := pe.toInt) (a := wt_1.toInt) (by omega); omega))).symm.trans hi_1_3, hh_6.rt (M1 := [(r0, 6, 11, .int wt_1)]) [0] rfl ht⟩, by rw [ht]; try exact hh_6.1.1, fun q h9 hq => by rw [ht]; try exact hh_6.1.2.1 q h9 hq⟩) hh_6.1.2.2 dX4_digits_45
        · skip
          have c_8' : r_7.toInt ≠ 0 := jb_eq_n (rfl) ((by decide)) c_8
          first | (have hr_7pq := hr_7p.resolve_left (by omega); clear hr_7p) | (have hr_7pq := hr_7p.resolve_right (by omega); clear hr_7p) | try clear hr_7p
          refine lv_aload_n hx hb dX4_digits_26 rfl (lv_at hl 0 rfl) ?_
          refine lv_dup hx hb dX4_digits_27 rfl ?_
          refine j7_read hx hb hown hK (C := RX4) (T := TX4) (N := 12) rfl hly_6_11 hlk_47 (hh_6.at 0 rfl) dX4_digits_28 ?_
          refine lv_iconst (v := 1) hx hb dX4_digits_31 (by decide) ?_
          refine lv_iadd hx hb dX4_digits_32 ?_
          refine lv_topi (fun z_10 ez_10 => ?_)
          have hz_10 : z_10.toInt = wt_1.toInt + 1 := by rw [ez_10]; exact jb_iadd2 (rfl) ((by decide)) (by omega)
          refine j7_put hx hb hown hK hh_6 hB hAp hB6 (C := RX4) (T := TX4) (N := 12) rfl (by decide) hg_r0 (i := 11) (by decide) hly_6_11 rfl hlk_47 rfl (ty := .int) (v := .int z_10) (by decide +kernel) rfl rfl (⟨_, rfl, by omega, by omega⟩) rfl (L1 := [(r0, 6, 9, .ref rb), (r0, 6, 10, .int pe)]) [1, 2] rfl rfl rfl dX4_digits_33 (fun H_11 locs_11 hh_11 => ?_)
          clear hh_6
          refine lv_goto (tgt := 5) hx hb dX4_digits_36 (by decide) ?_
          exact L5 z_10 (kf - 1) _ _ hh_11 (by refine ⟨by omega, by omega, by omega, ?_⟩; exact (jjD_y (by omega) (by have h9 := jjK.y (b := jB8 fb) (e := pe.toInt) (a := wt_1.toInt) (by omega); omega) (by have h9 := jjK.y (b := jB8 fb) (e := pe.toInt) (a := wt_1.toInt) (by omega); omega) (by omega) (by omega)).trans hi_1_3) (by omega) _ (lv_sub hl [0, 1] rfl)
  exact L5 (pe.toInt - (pt : Int32).toInt : Int).toNat.succ pt ((pe.toInt - pt.toInt).toNat) _ _ (hh.sub (L1 := [(r0, 6, 11, .int pt), (r0, 6, 9, .ref rb), (r0, 6, 10, .int pe)]) [2, 0, 1] rfl (M1 := [(rb, 100, n_rb, ca 0, fb)]) [0] rfl (I1 := []) [] rfl) (by refine ⟨by omega, by omega, by omega, rfl⟩) (by omega) _ (lv_sub hl [1, 0] rfl)
end
