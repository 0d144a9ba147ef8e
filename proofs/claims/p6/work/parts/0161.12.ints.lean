section
theorem dX0_decodedSize_0 : decode cX0_decodedSize 0 = .ok (.iload_n 0, 1) := by decide +kernel
theorem dX0_decodedSize_1 : decode cX0_decodedSize 1 = .ok (.sipush 128, 3) := by decide +kernel
theorem dX0_decodedSize_4 : decode cX0_decodedSize 4 = .ok (.if_icmp .ge 7, 3) := by decide +kernel
theorem dX0_decodedSize_7 : decode cX0_decodedSize 7 = .ok (.iconst 1, 1) := by decide +kernel
theorem dX0_decodedSize_8 : decode cX0_decodedSize 8 = .ok (.goto 25, 3) := by decide +kernel
theorem dX0_decodedSize_11 : decode cX0_decodedSize 11 = .ok (.iload_n 0, 1) := by decide +kernel
theorem dX0_decodedSize_12 : decode cX0_decodedSize 12 = .ok (.sipush 2048, 3) := by decide +kernel
theorem dX0_decodedSize_15 : decode cX0_decodedSize 15 = .ok (.if_icmp .ge 7, 3) := by decide +kernel
theorem dX0_decodedSize_18 : decode cX0_decodedSize 18 = .ok (.iconst 2, 1) := by decide +kernel
theorem dX0_decodedSize_19 : decode cX0_decodedSize 19 = .ok (.goto 14, 3) := by decide +kernel
theorem dX0_decodedSize_22 : decode cX0_decodedSize 22 = .ok (.iload_n 0, 1) := by decide +kernel
theorem dX0_decodedSize_23 : decode cX0_decodedSize 23 = .ok (.ldc 60, 2) := by decide +kernel
theorem dX0_decodedSize_25 : decode cX0_decodedSize 25 = .ok (.if_icmp .ge 7, 3) := by decide +kernel
theorem dX0_decodedSize_28 : decode cX0_decodedSize 28 = .ok (.iconst 3, 1) := by decide +kernel
theorem dX0_decodedSize_29 : decode cX0_decodedSize 29 = .ok (.goto 4, 3) := by decide +kernel
theorem dX0_decodedSize_32 : decode cX0_decodedSize 32 = .ok (.iconst 4, 1) := by decide +kernel
theorem dX0_decodedSize_33 : decode cX0_decodedSize 33 = .ok (.ireturn, 1) := by decide +kernel
end
section
theorem dX0_decoded_0 : decode cX0_decoded 0 = .ok (.iload_n 1, 1) := by decide +kernel
theorem dX0_decoded_1 : decode cX0_decoded 1 = .ok (.ifCond .lt 14, 3) := by decide +kernel
theorem dX0_decoded_4 : decode cX0_decoded 4 = .ok (.iload_n 1, 1) := by decide +kernel
theorem dX0_decoded_5 : decode cX0_decoded 5 = .ok (.iload_n 2, 1) := by decide +kernel
theorem dX0_decoded_6 : decode cX0_decoded 6 = .ok (.if_icmp .ge 9, 3) := by decide +kernel
theorem dX0_decoded_9 : decode cX0_decoded 9 = .ok (.iload_n 2, 1) := by decide +kernel
theorem dX0_decoded_10 : decode cX0_decoded 10 = .ok (.aload_n 0, 1) := by decide +kernel
theorem dX0_decoded_11 : decode cX0_decoded 11 = .ok (.arraylength, 1) := by decide +kernel
theorem dX0_decoded_12 : decode cX0_decoded 12 = .ok (.if_icmp .le 5, 3) := by decide +kernel
theorem dX0_decoded_17 : decode cX0_decoded 17 = .ok (.aload_n 0, 1) := by decide +kernel
theorem dX0_decoded_18 : decode cX0_decoded 18 = .ok (.iload_n 1, 1) := by decide +kernel
theorem dX0_decoded_19 : decode cX0_decoded 19 = .ok (.baload, 1) := by decide +kernel
theorem dX0_decoded_20 : decode cX0_decoded 20 = .ok (.sipush 255, 3) := by decide +kernel
theorem dX0_decoded_23 : decode cX0_decoded 23 = .ok (.iand, 1) := by decide +kernel
theorem dX0_decoded_24 : decode cX0_decoded 24 = .ok (.istore_n 3, 1) := by decide +kernel
theorem dX0_decoded_25 : decode cX0_decoded 25 = .ok (.iload_n 3, 1) := by decide +kernel
theorem dX0_decoded_26 : decode cX0_decoded 26 = .ok (.sipush 128, 3) := by decide +kernel
theorem dX0_decoded_29 : decode cX0_decoded 29 = .ok (.if_icmp .ge 5, 3) := by decide +kernel
theorem dX0_decoded_32 : decode cX0_decoded 32 = .ok (.iload_n 3, 1) := by decide +kernel
theorem dX0_decoded_33 : decode cX0_decoded 33 = .ok (.ireturn, 1) := by decide +kernel
theorem dX0_decoded_34 : decode cX0_decoded 34 = .ok (.iload_n 3, 1) := by decide +kernel
theorem dX0_decoded_35 : decode cX0_decoded 35 = .ok (.sipush 240, 3) := by decide +kernel
theorem dX0_decoded_38 : decode cX0_decoded 38 = .ok (.if_icmp .lt 7, 3) := by decide +kernel
theorem dX0_decoded_41 : decode cX0_decoded 41 = .ok (.iconst 3, 1) := by decide +kernel
theorem dX0_decoded_42 : decode cX0_decoded 42 = .ok (.goto 15, 3) := by decide +kernel
theorem dX0_decoded_45 : decode cX0_decoded 45 = .ok (.iload_n 3, 1) := by decide +kernel
theorem dX0_decoded_46 : decode cX0_decoded 46 = .ok (.sipush 224, 3) := by decide +kernel
theorem dX0_decoded_49 : decode cX0_decoded 49 = .ok (.if_icmp .lt 7, 3) := by decide +kernel
theorem dX0_decoded_52 : decode cX0_decoded 52 = .ok (.iconst 2, 1) := by decide +kernel
theorem dX0_decoded_53 : decode cX0_decoded 53 = .ok (.goto 4, 3) := by decide +kernel
theorem dX0_decoded_56 : decode cX0_decoded 56 = .ok (.iconst 1, 1) := by decide +kernel
theorem dX0_decoded_57 : decode cX0_decoded 57 = .ok (.istore 4, 2) := by decide +kernel
theorem dX0_decoded_59 : decode cX0_decoded 59 = .ok (.iload_n 3, 1) := by decide +kernel
theorem dX0_decoded_60 : decode cX0_decoded 60 = .ok (.sipush 194, 3) := by decide +kernel
theorem dX0_decoded_63 : decode cX0_decoded 63 = .ok (.if_icmp .lt 18, 3) := by decide +kernel
theorem dX0_decoded_66 : decode cX0_decoded 66 = .ok (.iload_n 3, 1) := by decide +kernel
theorem dX0_decoded_67 : decode cX0_decoded 67 = .ok (.sipush 244, 3) := by decide +kernel
theorem dX0_decoded_70 : decode cX0_decoded 70 = .ok (.if_icmp .gt 11, 3) := by decide +kernel
theorem dX0_decoded_73 : decode cX0_decoded 73 = .ok (.iload 4, 2) := by decide +kernel
theorem dX0_decoded_75 : decode cX0_decoded 75 = .ok (.iload_n 2, 1) := by decide +kernel
theorem dX0_decoded_76 : decode cX0_decoded 76 = .ok (.iload_n 1, 1) := by decide +kernel
theorem dX0_decoded_77 : decode cX0_decoded 77 = .ok (.isub, 1) := by decide +kernel
theorem dX0_decoded_78 : decode cX0_decoded 78 = .ok (.if_icmp .lt 5, 3) := by decide +kernel
theorem dX0_decoded_81 : decode cX0_decoded 81 = .ok (.iconst (-1), 1) := by decide +kernel
theorem dX0_decoded_82 : decode cX0_decoded 82 = .ok (.ireturn, 1) := by decide +kernel
theorem dX0_decoded_83 : decode cX0_decoded 83 = .ok (.iload_n 3, 1) := by decide +kernel
theorem dX0_decoded_84 : decode cX0_decoded 84 = .ok (.bipush 63, 2) := by decide +kernel
theorem dX0_decoded_86 : decode cX0_decoded 86 = .ok (.iload 4, 2) := by decide +kernel
theorem dX0_decoded_88 : decode cX0_decoded 88 = .ok (.ishr, 1) := by decide +kernel
theorem dX0_decoded_89 : decode cX0_decoded 89 = .ok (.iand, 1) := by decide +kernel
theorem dX0_decoded_90 : decode cX0_decoded 90 = .ok (.istore 5, 2) := by decide +kernel
theorem dX0_decoded_92 : decode cX0_decoded 92 = .ok (.iconst 1, 1) := by decide +kernel
theorem dX0_decoded_93 : decode cX0_decoded 93 = .ok (.istore 6, 2) := by decide +kernel
theorem dX0_decoded_95 : decode cX0_decoded 95 = .ok (.iload 6, 2) := by decide +kernel
theorem dX0_decoded_97 : decode cX0_decoded 97 = .ok (.iload 4, 2) := by decide +kernel
theorem dX0_decoded_99 : decode cX0_decoded 99 = .ok (.if_icmp .gt 48, 3) := by decide +kernel
theorem dX0_decoded_102 : decode cX0_decoded 102 = .ok (.aload_n 0, 1) := by decide +kernel
theorem dX0_decoded_103 : decode cX0_decoded 103 = .ok (.iload_n 1, 1) := by decide +kernel
theorem dX0_decoded_104 : decode cX0_decoded 104 = .ok (.iload 6, 2) := by decide +kernel
theorem dX0_decoded_106 : decode cX0_decoded 106 = .ok (.iadd, 1) := by decide +kernel
theorem dX0_decoded_107 : decode cX0_decoded 107 = .ok (.baload, 1) := by decide +kernel
theorem dX0_decoded_108 : decode cX0_decoded 108 = .ok (.sipush 255, 3) := by decide +kernel
theorem dX0_decoded_111 : decode cX0_decoded 111 = .ok (.iand, 1) := by decide +kernel
theorem dX0_decoded_112 : decode cX0_decoded 112 = .ok (.istore 7, 2) := by decide +kernel
theorem dX0_decoded_114 : decode cX0_decoded 114 = .ok (.iload 7, 2) := by decide +kernel
theorem dX0_decoded_116 : decode cX0_decoded 116 = .ok (.sipush 192, 3) := by decide +kernel
theorem dX0_decoded_119 : decode cX0_decoded 119 = .ok (.iand, 1) := by decide +kernel
theorem dX0_decoded_120 : decode cX0_decoded 120 = .ok (.sipush 128, 3) := by decide +kernel
theorem dX0_decoded_123 : decode cX0_decoded 123 = .ok (.if_icmp .eq 5, 3) := by decide +kernel
theorem dX0_decoded_126 : decode cX0_decoded 126 = .ok (.iconst (-1), 1) := by decide +kernel
theorem dX0_decoded_127 : decode cX0_decoded 127 = .ok (.ireturn, 1) := by decide +kernel
theorem dX0_decoded_128 : decode cX0_decoded 128 = .ok (.iload 5, 2) := by decide +kernel
theorem dX0_decoded_130 : decode cX0_decoded 130 = .ok (.bipush 6, 2) := by decide +kernel
theorem dX0_decoded_132 : decode cX0_decoded 132 = .ok (.ishl, 1) := by decide +kernel
theorem dX0_decoded_133 : decode cX0_decoded 133 = .ok (.iload 7, 2) := by decide +kernel
theorem dX0_decoded_135 : decode cX0_decoded 135 = .ok (.bipush 63, 2) := by decide +kernel
theorem dX0_decoded_137 : decode cX0_decoded 137 = .ok (.iand, 1) := by decide +kernel
theorem dX0_decoded_138 : decode cX0_decoded 138 = .ok (.ior, 1) := by decide +kernel
theorem dX0_decoded_139 : decode cX0_decoded 139 = .ok (.istore 5, 2) := by decide +kernel
theorem dX0_decoded_141 : decode cX0_decoded 141 = .ok (.iinc 6 1, 3) := by decide +kernel
theorem dX0_decoded_144 : decode cX0_decoded 144 = .ok (.goto (-49), 3) := by decide +kernel
theorem dX0_decoded_147 : decode cX0_decoded 147 = .ok (.iload 4, 2) := by decide +kernel
theorem dX0_decoded_149 : decode cX0_decoded 149 = .ok (.iconst 2, 1) := by decide +kernel
theorem dX0_decoded_150 : decode cX0_decoded 150 = .ok (.if_icmp .ne 11, 3) := by decide +kernel
theorem dX0_decoded_153 : decode cX0_decoded 153 = .ok (.iload 5, 2) := by decide +kernel
theorem dX0_decoded_155 : decode cX0_decoded 155 = .ok (.sipush 2048, 3) := by decide +kernel
theorem dX0_decoded_158 : decode cX0_decoded 158 = .ok (.if_icmp .lt 16, 3) := by decide +kernel
theorem dX0_decoded_161 : decode cX0_decoded 161 = .ok (.iload 4, 2) := by decide +kernel
theorem dX0_decoded_163 : decode cX0_decoded 163 = .ok (.iconst 3, 1) := by decide +kernel
theorem dX0_decoded_164 : decode cX0_decoded 164 = .ok (.if_icmp .ne 14, 3) := by decide +kernel
theorem dX0_decoded_167 : decode cX0_decoded 167 = .ok (.iload 5, 2) := by decide +kernel
theorem dX0_decoded_169 : decode cX0_decoded 169 = .ok (.ldc 60, 2) := by decide +kernel
theorem dX0_decoded_171 : decode cX0_decoded 171 = .ok (.if_icmp .ge 7, 3) := by decide +kernel
theorem dX0_decoded_174 : decode cX0_decoded 174 = .ok (.iconst 1, 1) := by decide +kernel
theorem dX0_decoded_175 : decode cX0_decoded 175 = .ok (.goto 4, 3) := by decide +kernel
theorem dX0_decoded_178 : decode cX0_decoded 178 = .ok (.iconst 0, 1) := by decide +kernel
theorem dX0_decoded_179 : decode cX0_decoded 179 = .ok (.istore 6, 2) := by decide +kernel
theorem dX0_decoded_181 : decode cX0_decoded 181 = .ok (.iload 6, 2) := by decide +kernel
theorem dX0_decoded_183 : decode cX0_decoded 183 = .ok (.ifCond .ne 24, 3) := by decide +kernel
theorem dX0_decoded_186 : decode cX0_decoded 186 = .ok (.iload 5, 2) := by decide +kernel
theorem dX0_decoded_188 : decode cX0_decoded 188 = .ok (.ldc 74, 2) := by decide +kernel
theorem dX0_decoded_190 : decode cX0_decoded 190 = .ok (.if_icmp .gt 17, 3) := by decide +kernel
theorem dX0_decoded_193 : decode cX0_decoded 193 = .ok (.iload 5, 2) := by decide +kernel
theorem dX0_decoded_195 : decode cX0_decoded 195 = .ok (.ldc 61, 2) := by decide +kernel
theorem dX0_decoded_197 : decode cX0_decoded 197 = .ok (.if_icmp .lt 14, 3) := by decide +kernel
theorem dX0_decoded_200 : decode cX0_decoded 200 = .ok (.iload 5, 2) := by decide +kernel
theorem dX0_decoded_202 : decode cX0_decoded 202 = .ok (.ldc 73, 2) := by decide +kernel
theorem dX0_decoded_204 : decode cX0_decoded 204 = .ok (.if_icmp .ge 7, 3) := by decide +kernel
theorem dX0_decoded_207 : decode cX0_decoded 207 = .ok (.iconst (-1), 1) := by decide +kernel
theorem dX0_decoded_208 : decode cX0_decoded 208 = .ok (.goto 5, 3) := by decide +kernel
theorem dX0_decoded_211 : decode cX0_decoded 211 = .ok (.iload 5, 2) := by decide +kernel
theorem dX0_decoded_213 : decode cX0_decoded 213 = .ok (.ireturn, 1) := by decide +kernel
end
section
theorem jWr_18 : ∀ w ∈ wsL_law_r18, w ∈ jWl := fun w h => jT18 w (List.mem_append_left _ h)
end
section
theorem dX4_peek_0 : decode cX4_peek 0 = .ok (.aload_n 0, 1) := by decide +kernel
theorem dX4_peek_1 : decode cX4_peek 1 = .ok (.getfield 47, 3) := by decide +kernel
theorem dX4_peek_4 : decode cX4_peek 4 = .ok (.ifCond .lt 30, 3) := by decide +kernel
theorem dX4_peek_7 : decode cX4_peek 7 = .ok (.aload_n 0, 1) := by decide +kernel
theorem dX4_peek_8 : decode cX4_peek 8 = .ok (.getfield 47, 3) := by decide +kernel
theorem dX4_peek_11 : decode cX4_peek 11 = .ok (.aload_n 0, 1) := by decide +kernel
theorem dX4_peek_12 : decode cX4_peek 12 = .ok (.getfield 43, 3) := by decide +kernel
theorem dX4_peek_15 : decode cX4_peek 15 = .ok (.if_icmp .ge 19, 3) := by decide +kernel
theorem dX4_peek_18 : decode cX4_peek 18 = .ok (.aload_n 0, 1) := by decide +kernel
theorem dX4_peek_19 : decode cX4_peek 19 = .ok (.getfield 33, 3) := by decide +kernel
theorem dX4_peek_22 : decode cX4_peek 22 = .ok (.aload_n 0, 1) := by decide +kernel
theorem dX4_peek_23 : decode cX4_peek 23 = .ok (.getfield 47, 3) := by decide +kernel
theorem dX4_peek_26 : decode cX4_peek 26 = .ok (.baload, 1) := by decide +kernel
theorem dX4_peek_27 : decode cX4_peek 27 = .ok (.sipush 255, 3) := by decide +kernel
theorem dX4_peek_30 : decode cX4_peek 30 = .ok (.iand, 1) := by decide +kernel
theorem dX4_peek_31 : decode cX4_peek 31 = .ok (.goto 4, 3) := by decide +kernel
theorem dX4_peek_34 : decode cX4_peek 34 = .ok (.iconst (-1), 1) := by decide +kernel
theorem dX4_peek_35 : decode cX4_peek 35 = .ok (.ireturn, 1) := by decide +kernel
theorem dX4_skipBlanks_0 : decode cX4_skipBlanks 0 = .ok (.aload_n 0, 1) := by decide +kernel
theorem dX4_skipBlanks_1 : decode cX4_skipBlanks 1 = .ok (.getfield 47, 3) := by decide +kernel
theorem dX4_skipBlanks_4 : decode cX4_skipBlanks 4 = .ok (.aload_n 0, 1) := by decide +kernel
theorem dX4_skipBlanks_5 : decode cX4_skipBlanks 5 = .ok (.getfield 43, 3) := by decide +kernel
theorem dX4_skipBlanks_8 : decode cX4_skipBlanks 8 = .ok (.if_icmp .ge 26, 3) := by decide +kernel
theorem dX4_skipBlanks_11 : decode cX4_skipBlanks 11 = .ok (.aload_n 0, 1) := by decide +kernel
theorem dX4_skipBlanks_12 : decode cX4_skipBlanks 12 = .ok (.invokevirtual 89, 3) := by decide +kernel
theorem dX4_skipBlanks_15 : decode cX4_skipBlanks 15 = .ok (.invokestatic 92, 3) := by decide +kernel
theorem dX4_skipBlanks_18 : decode cX4_skipBlanks 18 = .ok (.ifCond .eq 16, 3) := by decide +kernel
theorem dX4_skipBlanks_21 : decode cX4_skipBlanks 21 = .ok (.aload_n 0, 1) := by decide +kernel
theorem dX4_skipBlanks_22 : decode cX4_skipBlanks 22 = .ok (.dup, 1) := by decide +kernel
theorem dX4_skipBlanks_23 : decode cX4_skipBlanks 23 = .ok (.getfield 47, 3) := by decide +kernel
theorem dX4_skipBlanks_26 : decode cX4_skipBlanks 26 = .ok (.iconst 1, 1) := by decide +kernel
theorem dX4_skipBlanks_27 : decode cX4_skipBlanks 27 = .ok (.iadd, 1) := by decide +kernel
theorem dX4_skipBlanks_28 : decode cX4_skipBlanks 28 = .ok (.putfield 47, 3) := by decide +kernel
theorem dX4_skipBlanks_31 : decode cX4_skipBlanks 31 = .ok (.goto (-31), 3) := by decide +kernel
theorem dX4_skipBlanks_34 : decode cX4_skipBlanks 34 = .ok (.return_, 1) := by decide +kernel
theorem dX4_make_0 : decode cX4_make 0 = .ok (.aload_n 0, 1) := by decide +kernel
theorem dX4_make_1 : decode cX4_make 1 = .ok (.getfield 50, 3) := by decide +kernel
theorem dX4_make_4 : decode cX4_make 4 = .ok (.sipush 1502, 3) := by decide +kernel
theorem dX4_make_7 : decode cX4_make 7 = .ok (.if_icmp .lt 5, 3) := by decide +kernel
theorem dX4_make_10 : decode cX4_make 10 = .ok (.iconst (-1), 1) := by decide +kernel
theorem dX4_make_11 : decode cX4_make 11 = .ok (.ireturn, 1) := by decide +kernel
theorem dX4_make_12 : decode cX4_make 12 = .ok (.aload_n 0, 1) := by decide +kernel
theorem dX4_make_13 : decode cX4_make 13 = .ok (.getfield 11, 3) := by decide +kernel
theorem dX4_make_16 : decode cX4_make 16 = .ok (.aload_n 0, 1) := by decide +kernel
theorem dX4_make_17 : decode cX4_make 17 = .ok (.getfield 50, 3) := by decide +kernel
theorem dX4_make_20 : decode cX4_make 20 = .ok (.iload_n 1, 1) := by decide +kernel
theorem dX4_make_21 : decode cX4_make 21 = .ok (.iastore, 1) := by decide +kernel
theorem dX4_make_22 : decode cX4_make 22 = .ok (.aload_n 0, 1) := by decide +kernel
theorem dX4_make_23 : decode cX4_make 23 = .ok (.getfield 15, 3) := by decide +kernel
theorem dX4_make_26 : decode cX4_make 26 = .ok (.aload_n 0, 1) := by decide +kernel
theorem dX4_make_27 : decode cX4_make 27 = .ok (.getfield 50, 3) := by decide +kernel
theorem dX4_make_30 : decode cX4_make 30 = .ok (.iload_n 2, 1) := by decide +kernel
theorem dX4_make_31 : decode cX4_make 31 = .ok (.iastore, 1) := by decide +kernel
theorem dX4_make_32 : decode cX4_make 32 = .ok (.aload_n 0, 1) := by decide +kernel
theorem dX4_make_33 : decode cX4_make 33 = .ok (.getfield 18, 3) := by decide +kernel
theorem dX4_make_36 : decode cX4_make 36 = .ok (.aload_n 0, 1) := by decide +kernel
theorem dX4_make_37 : decode cX4_make 37 = .ok (.getfield 50, 3) := by decide +kernel
theorem dX4_make_40 : decode cX4_make 40 = .ok (.iload_n 3, 1) := by decide +kernel
theorem dX4_make_41 : decode cX4_make 41 = .ok (.iastore, 1) := by decide +kernel
theorem dX4_make_42 : decode cX4_make 42 = .ok (.aload_n 0, 1) := by decide +kernel
theorem dX4_make_43 : decode cX4_make 43 = .ok (.getfield 21, 3) := by decide +kernel
theorem dX4_make_46 : decode cX4_make 46 = .ok (.aload_n 0, 1) := by decide +kernel
theorem dX4_make_47 : decode cX4_make 47 = .ok (.getfield 50, 3) := by decide +kernel
theorem dX4_make_50 : decode cX4_make 50 = .ok (.iconst (-1), 1) := by decide +kernel
theorem dX4_make_51 : decode cX4_make 51 = .ok (.iastore, 1) := by decide +kernel
theorem dX4_make_52 : decode cX4_make 52 = .ok (.aload_n 0, 1) := by decide +kernel
theorem dX4_make_53 : decode cX4_make 53 = .ok (.getfield 24, 3) := by decide +kernel
theorem dX4_make_56 : decode cX4_make 56 = .ok (.aload_n 0, 1) := by decide +kernel
theorem dX4_make_57 : decode cX4_make 57 = .ok (.getfield 50, 3) := by decide +kernel
theorem dX4_make_60 : decode cX4_make 60 = .ok (.iconst 0, 1) := by decide +kernel
theorem dX4_make_61 : decode cX4_make 61 = .ok (.iastore, 1) := by decide +kernel
theorem dX4_make_62 : decode cX4_make 62 = .ok (.aload_n 0, 1) := by decide +kernel
theorem dX4_make_63 : decode cX4_make 63 = .ok (.getfield 27, 3) := by decide +kernel
theorem dX4_make_66 : decode cX4_make 66 = .ok (.aload_n 0, 1) := by decide +kernel
theorem dX4_make_67 : decode cX4_make 67 = .ok (.getfield 50, 3) := by decide +kernel
theorem dX4_make_70 : decode cX4_make 70 = .ok (.iconst 0, 1) := by decide +kernel
theorem dX4_make_71 : decode cX4_make 71 = .ok (.iastore, 1) := by decide +kernel
theorem dX4_make_72 : decode cX4_make 72 = .ok (.aload_n 0, 1) := by decide +kernel
theorem dX4_make_73 : decode cX4_make 73 = .ok (.dup, 1) := by decide +kernel
theorem dX4_make_74 : decode cX4_make 74 = .ok (.getfield 50, 3) := by decide +kernel
theorem dX4_make_77 : decode cX4_make 77 = .ok (.iconst 1, 1) := by decide +kernel
theorem dX4_make_78 : decode cX4_make 78 = .ok (.iadd, 1) := by decide +kernel
theorem dX4_make_79 : decode cX4_make 79 = .ok (.putfield 50, 3) := by decide +kernel
theorem dX4_make_82 : decode cX4_make 82 = .ok (.aload_n 0, 1) := by decide +kernel
theorem dX4_make_83 : decode cX4_make 83 = .ok (.getfield 50, 3) := by decide +kernel
theorem dX4_make_86 : decode cX4_make 86 = .ok (.iconst 1, 1) := by decide +kernel
theorem dX4_make_87 : decode cX4_make 87 = .ok (.isub, 1) := by decide +kernel
theorem dX4_make_88 : decode cX4_make 88 = .ok (.ireturn, 1) := by decide +kernel
theorem dX4_addChar_0 : decode cX4_addChar 0 = .ok (.iload_n 1, 1) := by decide +kernel
theorem dX4_addChar_1 : decode cX4_addChar 1 = .ok (.ldc 161, 2) := by decide +kernel
theorem dX4_addChar_3 : decode cX4_addChar 3 = .ok (.if_icmp .lt 35, 3) := by decide +kernel
theorem dX4_addChar_6 : decode cX4_addChar 6 = .ok (.aload_n 0, 1) := by decide +kernel
theorem dX4_addChar_7 : decode cX4_addChar 7 = .ok (.ldc 162, 2) := by decide +kernel
theorem dX4_addChar_9 : decode cX4_addChar 9 = .ok (.iload_n 1, 1) := by decide +kernel
theorem dX4_addChar_10 : decode cX4_addChar 10 = .ok (.ldc 161, 2) := by decide +kernel
theorem dX4_addChar_12 : decode cX4_addChar 12 = .ok (.isub, 1) := by decide +kernel
theorem dX4_addChar_13 : decode cX4_addChar 13 = .ok (.bipush 10, 2) := by decide +kernel
theorem dX4_addChar_15 : decode cX4_addChar 15 = .ok (.ishr, 1) := by decide +kernel
theorem dX4_addChar_16 : decode cX4_addChar 16 = .ok (.iadd, 1) := by decide +kernel
theorem dX4_addChar_17 : decode cX4_addChar 17 = .ok (.invokevirtual 163, 3) := by decide +kernel
theorem dX4_addChar_20 : decode cX4_addChar 20 = .ok (.aload_n 0, 1) := by decide +kernel
theorem dX4_addChar_21 : decode cX4_addChar 21 = .ok (.ldc 166, 2) := by decide +kernel
theorem dX4_addChar_23 : decode cX4_addChar 23 = .ok (.iload_n 1, 1) := by decide +kernel
theorem dX4_addChar_24 : decode cX4_addChar 24 = .ok (.ldc 161, 2) := by decide +kernel
theorem dX4_addChar_26 : decode cX4_addChar 26 = .ok (.isub, 1) := by decide +kernel
theorem dX4_addChar_27 : decode cX4_addChar 27 = .ok (.sipush 1023, 3) := by decide +kernel
theorem dX4_addChar_30 : decode cX4_addChar 30 = .ok (.iand, 1) := by decide +kernel
theorem dX4_addChar_31 : decode cX4_addChar 31 = .ok (.iadd, 1) := by decide +kernel
theorem dX4_addChar_32 : decode cX4_addChar 32 = .ok (.invokevirtual 163, 3) := by decide +kernel
theorem dX4_addChar_35 : decode cX4_addChar 35 = .ok (.goto 8, 3) := by decide +kernel
theorem dX4_addChar_38 : decode cX4_addChar 38 = .ok (.aload_n 0, 1) := by decide +kernel
theorem dX4_addChar_39 : decode cX4_addChar 39 = .ok (.iload_n 1, 1) := by decide +kernel
theorem dX4_addChar_40 : decode cX4_addChar 40 = .ok (.invokevirtual 163, 3) := by decide +kernel
theorem dX4_addChar_43 : decode cX4_addChar 43 = .ok (.return_, 1) := by decide +kernel
theorem dX4_addUnit_0 : decode cX4_addUnit 0 = .ok (.aload_n 0, 1) := by decide +kernel
theorem dX4_addUnit_1 : decode cX4_addUnit 1 = .ok (.getfield 53, 3) := by decide +kernel
theorem dX4_addUnit_4 : decode cX4_addUnit 4 = .ok (.aload_n 0, 1) := by decide +kernel
theorem dX4_addUnit_5 : decode cX4_addUnit 5 = .ok (.getfield 30, 3) := by decide +kernel
theorem dX4_addUnit_8 : decode cX4_addUnit 8 = .ok (.arraylength, 1) := by decide +kernel
theorem dX4_addUnit_9 : decode cX4_addUnit 9 = .ok (.if_icmp .ge 23, 3) := by decide +kernel
theorem dX4_addUnit_12 : decode cX4_addUnit 12 = .ok (.aload_n 0, 1) := by decide +kernel
theorem dX4_addUnit_13 : decode cX4_addUnit 13 = .ok (.getfield 30, 3) := by decide +kernel
theorem dX4_addUnit_16 : decode cX4_addUnit 16 = .ok (.aload_n 0, 1) := by decide +kernel
theorem dX4_addUnit_17 : decode cX4_addUnit 17 = .ok (.getfield 53, 3) := by decide +kernel
theorem dX4_addUnit_20 : decode cX4_addUnit 20 = .ok (.iload_n 1, 1) := by decide +kernel
theorem dX4_addUnit_21 : decode cX4_addUnit 21 = .ok (.iastore, 1) := by decide +kernel
theorem dX4_addUnit_22 : decode cX4_addUnit 22 = .ok (.aload_n 0, 1) := by decide +kernel
theorem dX4_addUnit_23 : decode cX4_addUnit 23 = .ok (.dup, 1) := by decide +kernel
theorem dX4_addUnit_24 : decode cX4_addUnit 24 = .ok (.getfield 53, 3) := by decide +kernel
theorem dX4_addUnit_27 : decode cX4_addUnit 27 = .ok (.iconst 1, 1) := by decide +kernel
theorem dX4_addUnit_28 : decode cX4_addUnit 28 = .ok (.iadd, 1) := by decide +kernel
theorem dX4_addUnit_29 : decode cX4_addUnit 29 = .ok (.putfield 53, 3) := by decide +kernel
theorem dX4_addUnit_32 : decode cX4_addUnit 32 = .ok (.return_, 1) := by decide +kernel
end
section
theorem dX4_isColon_0 : decode cX4_isColon 0 = .ok (.aload_n 0, 1) := by decide +kernel
theorem dX4_isColon_1 : decode cX4_isColon 1 = .ok (.invokevirtual 56, 3) := by decide +kernel
theorem dX4_isColon_4 : decode cX4_isColon 4 = .ok (.aload_n 0, 1) := by decide +kernel
theorem dX4_isColon_5 : decode cX4_isColon 5 = .ok (.invokevirtual 89, 3) := by decide +kernel
theorem dX4_isColon_8 : decode cX4_isColon 8 = .ok (.bipush 58, 2) := by decide +kernel
theorem dX4_isColon_10 : decode cX4_isColon 10 = .ok (.if_icmp .ne 7, 3) := by decide +kernel
theorem dX4_isColon_13 : decode cX4_isColon 13 = .ok (.iconst 1, 1) := by decide +kernel
theorem dX4_isColon_14 : decode cX4_isColon 14 = .ok (.goto 4, 3) := by decide +kernel
theorem dX4_isColon_17 : decode cX4_isColon 17 = .ok (.iconst 0, 1) := by decide +kernel
theorem dX4_isColon_18 : decode cX4_isColon 18 = .ok (.istore_n 1, 1) := by decide +kernel
theorem dX4_isColon_19 : decode cX4_isColon 19 = .ok (.aload_n 0, 1) := by decide +kernel
theorem dX4_isColon_20 : decode cX4_isColon 20 = .ok (.dup, 1) := by decide +kernel
theorem dX4_isColon_21 : decode cX4_isColon 21 = .ok (.getfield 47, 3) := by decide +kernel
theorem dX4_isColon_24 : decode cX4_isColon 24 = .ok (.iconst 1, 1) := by decide +kernel
theorem dX4_isColon_25 : decode cX4_isColon 25 = .ok (.iadd, 1) := by decide +kernel
theorem dX4_isColon_26 : decode cX4_isColon 26 = .ok (.putfield 47, 3) := by decide +kernel
theorem dX4_isColon_29 : decode cX4_isColon 29 = .ok (.aload_n 0, 1) := by decide +kernel
theorem dX4_isColon_30 : decode cX4_isColon 30 = .ok (.invokevirtual 56, 3) := by decide +kernel
theorem dX4_isColon_33 : decode cX4_isColon 33 = .ok (.iload_n 1, 1) := by decide +kernel
theorem dX4_isColon_34 : decode cX4_isColon 34 = .ok (.ireturn, 1) := by decide +kernel
theorem dX4_isWord_0 : decode cX4_isWord 0 = .ok (.iconst 0, 1) := by decide +kernel
theorem dX4_isWord_1 : decode cX4_isWord 1 = .ok (.istore_n 2, 1) := by decide +kernel
theorem dX4_isWord_2 : decode cX4_isWord 2 = .ok (.iload_n 2, 1) := by decide +kernel
theorem dX4_isWord_3 : decode cX4_isWord 3 = .ok (.aload_n 1, 1) := by decide +kernel
theorem dX4_isWord_4 : decode cX4_isWord 4 = .ok (.invokevirtual 70, 3) := by decide +kernel
theorem dX4_isWord_7 : decode cX4_isWord 7 = .ok (.if_icmp .ge 43, 3) := by decide +kernel
theorem dX4_isWord_10 : decode cX4_isWord 10 = .ok (.aload_n 0, 1) := by decide +kernel
theorem dX4_isWord_11 : decode cX4_isWord 11 = .ok (.getfield 47, 3) := by decide +kernel
theorem dX4_isWord_14 : decode cX4_isWord 14 = .ok (.iload_n 2, 1) := by decide +kernel
theorem dX4_isWord_15 : decode cX4_isWord 15 = .ok (.iadd, 1) := by decide +kernel
theorem dX4_isWord_16 : decode cX4_isWord 16 = .ok (.aload_n 0, 1) := by decide +kernel
theorem dX4_isWord_17 : decode cX4_isWord 17 = .ok (.getfield 43, 3) := by decide +kernel
theorem dX4_isWord_20 : decode cX4_isWord 20 = .ok (.if_icmp .ge 22, 3) := by decide +kernel
theorem dX4_isWord_23 : decode cX4_isWord 23 = .ok (.aload_n 0, 1) := by decide +kernel
theorem dX4_isWord_24 : decode cX4_isWord 24 = .ok (.getfield 33, 3) := by decide +kernel
theorem dX4_isWord_27 : decode cX4_isWord 27 = .ok (.aload_n 0, 1) := by decide +kernel
theorem dX4_isWord_28 : decode cX4_isWord 28 = .ok (.getfield 47, 3) := by decide +kernel
theorem dX4_isWord_31 : decode cX4_isWord 31 = .ok (.iload_n 2, 1) := by decide +kernel
theorem dX4_isWord_32 : decode cX4_isWord 32 = .ok (.iadd, 1) := by decide +kernel
theorem dX4_isWord_33 : decode cX4_isWord 33 = .ok (.baload, 1) := by decide +kernel
theorem dX4_isWord_34 : decode cX4_isWord 34 = .ok (.aload_n 1, 1) := by decide +kernel
theorem dX4_isWord_35 : decode cX4_isWord 35 = .ok (.iload_n 2, 1) := by decide +kernel
theorem dX4_isWord_36 : decode cX4_isWord 36 = .ok (.invokevirtual 76, 3) := by decide +kernel
theorem dX4_isWord_39 : decode cX4_isWord 39 = .ok (.if_icmp .eq 5, 3) := by decide +kernel
theorem dX4_isWord_42 : decode cX4_isWord 42 = .ok (.iconst 0, 1) := by decide +kernel
theorem dX4_isWord_43 : decode cX4_isWord 43 = .ok (.ireturn, 1) := by decide +kernel
theorem dX4_isWord_44 : decode cX4_isWord 44 = .ok (.iinc 2 1, 3) := by decide +kernel
theorem dX4_isWord_47 : decode cX4_isWord 47 = .ok (.goto (-45), 3) := by decide +kernel
theorem dX4_isWord_50 : decode cX4_isWord 50 = .ok (.aload_n 0, 1) := by decide +kernel
theorem dX4_isWord_51 : decode cX4_isWord 51 = .ok (.dup, 1) := by decide +kernel
theorem dX4_isWord_52 : decode cX4_isWord 52 = .ok (.getfield 47, 3) := by decide +kernel
theorem dX4_isWord_55 : decode cX4_isWord 55 = .ok (.aload_n 1, 1) := by decide +kernel
theorem dX4_isWord_56 : decode cX4_isWord 56 = .ok (.invokevirtual 70, 3) := by decide +kernel
theorem dX4_isWord_59 : decode cX4_isWord 59 = .ok (.iadd, 1) := by decide +kernel
theorem dX4_isWord_60 : decode cX4_isWord 60 = .ok (.putfield 47, 3) := by decide +kernel
theorem dX4_isWord_63 : decode cX4_isWord 63 = .ok (.iconst 1, 1) := by decide +kernel
theorem dX4_isWord_64 : decode cX4_isWord 64 = .ok (.ireturn, 1) := by decide +kernel
theorem dX4_number_0 : decode cX4_number 0 = .ok (.aload_n 0, 1) := by decide +kernel
theorem dX4_number_1 : decode cX4_number 1 = .ok (.invokevirtual 89, 3) := by decide +kernel
theorem dX4_number_4 : decode cX4_number 4 = .ok (.bipush 45, 2) := by decide +kernel
theorem dX4_number_6 : decode cX4_number 6 = .ok (.if_icmp .ne 7, 3) := by decide +kernel
theorem dX4_number_9 : decode cX4_number 9 = .ok (.iconst 1, 1) := by decide +kernel
theorem dX4_number_10 : decode cX4_number 10 = .ok (.goto 4, 3) := by decide +kernel
theorem dX4_number_13 : decode cX4_number 13 = .ok (.iconst 0, 1) := by decide +kernel
theorem dX4_number_14 : decode cX4_number 14 = .ok (.istore_n 1, 1) := by decide +kernel
theorem dX4_number_15 : decode cX4_number 15 = .ok (.iload_n 1, 1) := by decide +kernel
theorem dX4_number_16 : decode cX4_number 16 = .ok (.ifCond .eq 13, 3) := by decide +kernel
theorem dX4_number_19 : decode cX4_number 19 = .ok (.aload_n 0, 1) := by decide +kernel
theorem dX4_number_20 : decode cX4_number 20 = .ok (.dup, 1) := by decide +kernel
theorem dX4_number_21 : decode cX4_number 21 = .ok (.getfield 47, 3) := by decide +kernel
theorem dX4_number_24 : decode cX4_number 24 = .ok (.iconst 1, 1) := by decide +kernel
theorem dX4_number_25 : decode cX4_number 25 = .ok (.iadd, 1) := by decide +kernel
theorem dX4_number_26 : decode cX4_number 26 = .ok (.putfield 47, 3) := by decide +kernel
theorem dX4_number_29 : decode cX4_number 29 = .ok (.aload_n 0, 1) := by decide +kernel
theorem dX4_number_30 : decode cX4_number 30 = .ok (.getfield 47, 3) := by decide +kernel
theorem dX4_number_33 : decode cX4_number 33 = .ok (.istore_n 2, 1) := by decide +kernel
theorem dX4_number_34 : decode cX4_number 34 = .ok (.aload_n 0, 1) := by decide +kernel
theorem dX4_number_35 : decode cX4_number 35 = .ok (.invokevirtual 127, 3) := by decide +kernel
theorem dX4_number_38 : decode cX4_number 38 = .ok (.istore_n 3, 1) := by decide +kernel
theorem dX4_number_39 : decode cX4_number 39 = .ok (.iload_n 3, 1) := by decide +kernel
theorem dX4_number_40 : decode cX4_number 40 = .ok (.ifCond .eq 19, 3) := by decide +kernel
theorem dX4_number_43 : decode cX4_number 43 = .ok (.iload_n 3, 1) := by decide +kernel
theorem dX4_number_44 : decode cX4_number 44 = .ok (.iconst 1, 1) := by decide +kernel
theorem dX4_number_45 : decode cX4_number 45 = .ok (.if_icmp .le 16, 3) := by decide +kernel
theorem dX4_number_48 : decode cX4_number 48 = .ok (.aload_n 0, 1) := by decide +kernel
theorem dX4_number_49 : decode cX4_number 49 = .ok (.getfield 33, 3) := by decide +kernel
theorem dX4_number_52 : decode cX4_number 52 = .ok (.iload_n 2, 1) := by decide +kernel
theorem dX4_number_53 : decode cX4_number 53 = .ok (.baload, 1) := by decide +kernel
theorem dX4_number_54 : decode cX4_number 54 = .ok (.bipush 48, 2) := by decide +kernel
theorem dX4_number_56 : decode cX4_number 56 = .ok (.if_icmp .ne 5, 3) := by decide +kernel
theorem dX4_number_59 : decode cX4_number 59 = .ok (.iconst (-1), 1) := by decide +kernel
theorem dX4_number_60 : decode cX4_number 60 = .ok (.ireturn, 1) := by decide +kernel
theorem dX4_number_61 : decode cX4_number 61 = .ok (.iconst 1, 1) := by decide +kernel
theorem dX4_number_62 : decode cX4_number 62 = .ok (.istore 4, 2) := by decide +kernel
theorem dX4_number_64 : decode cX4_number 64 = .ok (.aload_n 0, 1) := by decide +kernel
theorem dX4_number_65 : decode cX4_number 65 = .ok (.invokevirtual 89, 3) := by decide +kernel
theorem dX4_number_68 : decode cX4_number 68 = .ok (.bipush 46, 2) := by decide +kernel
theorem dX4_number_70 : decode cX4_number 70 = .ok (.if_icmp .ne 25, 3) := by decide +kernel
theorem dX4_number_73 : decode cX4_number 73 = .ok (.iconst 0, 1) := by decide +kernel
theorem dX4_number_74 : decode cX4_number 74 = .ok (.istore 4, 2) := by decide +kernel
theorem dX4_number_76 : decode cX4_number 76 = .ok (.aload_n 0, 1) := by decide +kernel
theorem dX4_number_77 : decode cX4_number 77 = .ok (.dup, 1) := by decide +kernel
theorem dX4_number_78 : decode cX4_number 78 = .ok (.getfield 47, 3) := by decide +kernel
theorem dX4_number_81 : decode cX4_number 81 = .ok (.iconst 1, 1) := by decide +kernel
theorem dX4_number_82 : decode cX4_number 82 = .ok (.iadd, 1) := by decide +kernel
theorem dX4_number_83 : decode cX4_number 83 = .ok (.putfield 47, 3) := by decide +kernel
theorem dX4_number_86 : decode cX4_number 86 = .ok (.aload_n 0, 1) := by decide +kernel
theorem dX4_number_87 : decode cX4_number 87 = .ok (.invokevirtual 127, 3) := by decide +kernel
theorem dX4_number_90 : decode cX4_number 90 = .ok (.ifCond .ne 5, 3) := by decide +kernel
theorem dX4_number_93 : decode cX4_number 93 = .ok (.iconst (-1), 1) := by decide +kernel
theorem dX4_number_94 : decode cX4_number 94 = .ok (.ireturn, 1) := by decide +kernel
theorem dX4_number_95 : decode cX4_number 95 = .ok (.aload_n 0, 1) := by decide +kernel
theorem dX4_number_96 : decode cX4_number 96 = .ok (.invokevirtual 89, 3) := by decide +kernel
theorem dX4_number_99 : decode cX4_number 99 = .ok (.bipush 101, 2) := by decide +kernel
theorem dX4_number_101 : decode cX4_number 101 = .ok (.if_icmp .eq 12, 3) := by decide +kernel
theorem dX4_number_104 : decode cX4_number 104 = .ok (.aload_n 0, 1) := by decide +kernel
theorem dX4_number_105 : decode cX4_number 105 = .ok (.invokevirtual 89, 3) := by decide +kernel
theorem dX4_number_108 : decode cX4_number 108 = .ok (.bipush 69, 2) := by decide +kernel
theorem dX4_number_110 : decode cX4_number 110 = .ok (.if_icmp .ne 53, 3) := by decide +kernel
theorem dX4_number_113 : decode cX4_number 113 = .ok (.iconst 0, 1) := by decide +kernel
theorem dX4_number_114 : decode cX4_number 114 = .ok (.istore 4, 2) := by decide +kernel
theorem dX4_number_116 : decode cX4_number 116 = .ok (.aload_n 0, 1) := by decide +kernel
theorem dX4_number_117 : decode cX4_number 117 = .ok (.dup, 1) := by decide +kernel
theorem dX4_number_118 : decode cX4_number 118 = .ok (.getfield 47, 3) := by decide +kernel
theorem dX4_number_121 : decode cX4_number 121 = .ok (.iconst 1, 1) := by decide +kernel
theorem dX4_number_122 : decode cX4_number 122 = .ok (.iadd, 1) := by decide +kernel
theorem dX4_number_123 : decode cX4_number 123 = .ok (.putfield 47, 3) := by decide +kernel
theorem dX4_number_126 : decode cX4_number 126 = .ok (.aload_n 0, 1) := by decide +kernel
theorem dX4_number_127 : decode cX4_number 127 = .ok (.invokevirtual 89, 3) := by decide +kernel
theorem dX4_number_130 : decode cX4_number 130 = .ok (.bipush 43, 2) := by decide +kernel
theorem dX4_number_132 : decode cX4_number 132 = .ok (.if_icmp .eq 12, 3) := by decide +kernel
theorem dX4_number_135 : decode cX4_number 135 = .ok (.aload_n 0, 1) := by decide +kernel
theorem dX4_number_136 : decode cX4_number 136 = .ok (.invokevirtual 89, 3) := by decide +kernel
theorem dX4_number_139 : decode cX4_number 139 = .ok (.bipush 45, 2) := by decide +kernel
theorem dX4_number_141 : decode cX4_number 141 = .ok (.if_icmp .ne 13, 3) := by decide +kernel
theorem dX4_number_144 : decode cX4_number 144 = .ok (.aload_n 0, 1) := by decide +kernel
theorem dX4_number_145 : decode cX4_number 145 = .ok (.dup, 1) := by decide +kernel
theorem dX4_number_146 : decode cX4_number 146 = .ok (.getfield 47, 3) := by decide +kernel
theorem dX4_number_149 : decode cX4_number 149 = .ok (.iconst 1, 1) := by decide +kernel
theorem dX4_number_150 : decode cX4_number 150 = .ok (.iadd, 1) := by decide +kernel
theorem dX4_number_151 : decode cX4_number 151 = .ok (.putfield 47, 3) := by decide +kernel
theorem dX4_number_154 : decode cX4_number 154 = .ok (.aload_n 0, 1) := by decide +kernel
theorem dX4_number_155 : decode cX4_number 155 = .ok (.invokevirtual 127, 3) := by decide +kernel
theorem dX4_number_158 : decode cX4_number 158 = .ok (.ifCond .ne 5, 3) := by decide +kernel
theorem dX4_number_161 : decode cX4_number 161 = .ok (.iconst (-1), 1) := by decide +kernel
theorem dX4_number_162 : decode cX4_number 162 = .ok (.ireturn, 1) := by decide +kernel
theorem dX4_number_163 : decode cX4_number 163 = .ok (.lconst 0, 1) := by decide +kernel
theorem dX4_number_164 : decode cX4_number 164 = .ok (.lstore 5, 2) := by decide +kernel
theorem dX4_number_166 : decode cX4_number 166 = .ok (.iload_n 2, 1) := by decide +kernel
theorem dX4_number_167 : decode cX4_number 167 = .ok (.istore 7, 2) := by decide +kernel
theorem dX4_number_169 : decode cX4_number 169 = .ok (.iload 7, 2) := by decide +kernel
theorem dX4_number_171 : decode cX4_number 171 = .ok (.iload_n 2, 1) := by decide +kernel
theorem dX4_number_172 : decode cX4_number 172 = .ok (.iload_n 3, 1) := by decide +kernel
theorem dX4_number_173 : decode cX4_number 173 = .ok (.iadd, 1) := by decide +kernel
theorem dX4_number_174 : decode cX4_number 174 = .ok (.if_icmp .ge 39, 3) := by decide +kernel
theorem dX4_number_177 : decode cX4_number 177 = .ok (.lload 5, 2) := by decide +kernel
theorem dX4_number_179 : decode cX4_number 179 = .ok (.ldc2_w 130, 3) := by decide +kernel
theorem dX4_number_182 : decode cX4_number 182 = .ok (.lcmp, 1) := by decide +kernel
theorem dX4_number_183 : decode cX4_number 183 = .ok (.ifCond .gt 30, 3) := by decide +kernel
theorem dX4_number_186 : decode cX4_number 186 = .ok (.lload 5, 2) := by decide +kernel
theorem dX4_number_188 : decode cX4_number 188 = .ok (.ldc2_w 132, 3) := by decide +kernel
theorem dX4_number_191 : decode cX4_number 191 = .ok (.lmul, 1) := by decide +kernel
theorem dX4_number_192 : decode cX4_number 192 = .ok (.aload_n 0, 1) := by decide +kernel
theorem dX4_number_193 : decode cX4_number 193 = .ok (.getfield 33, 3) := by decide +kernel
theorem dX4_number_196 : decode cX4_number 196 = .ok (.iload 7, 2) := by decide +kernel
theorem dX4_number_198 : decode cX4_number 198 = .ok (.baload, 1) := by decide +kernel
theorem dX4_number_199 : decode cX4_number 199 = .ok (.i2l, 1) := by decide +kernel
theorem dX4_number_200 : decode cX4_number 200 = .ok (.ladd, 1) := by decide +kernel
theorem dX4_number_201 : decode cX4_number 201 = .ok (.ldc2_w 134, 3) := by decide +kernel
theorem dX4_number_204 : decode cX4_number 204 = .ok (.lsub, 1) := by decide +kernel
theorem dX4_number_205 : decode cX4_number 205 = .ok (.lstore 5, 2) := by decide +kernel
theorem dX4_number_207 : decode cX4_number 207 = .ok (.iinc 7 1, 3) := by decide +kernel
theorem dX4_number_210 : decode cX4_number 210 = .ok (.goto (-41), 3) := by decide +kernel
theorem dX4_number_213 : decode cX4_number 213 = .ok (.iload_n 1, 1) := by decide +kernel
theorem dX4_number_214 : decode cX4_number 214 = .ok (.ifCond .eq 9, 3) := by decide +kernel
theorem dX4_number_217 : decode cX4_number 217 = .ok (.lload 5, 2) := by decide +kernel
theorem dX4_number_219 : decode cX4_number 219 = .ok (.lneg, 1) := by decide +kernel
theorem dX4_number_220 : decode cX4_number 220 = .ok (.goto 5, 3) := by decide +kernel
theorem dX4_number_223 : decode cX4_number 223 = .ok (.lload 5, 2) := by decide +kernel
theorem dX4_number_225 : decode cX4_number 225 = .ok (.lstore 5, 2) := by decide +kernel
theorem dX4_number_227 : decode cX4_number 227 = .ok (.iload 4, 2) := by decide +kernel
theorem dX4_number_229 : decode cX4_number 229 = .ok (.ifCond .eq 25, 3) := by decide +kernel
theorem dX4_number_232 : decode cX4_number 232 = .ok (.lload 5, 2) := by decide +kernel
theorem dX4_number_234 : decode cX4_number 234 = .ok (.ldc2_w 136, 3) := by decide +kernel
theorem dX4_number_237 : decode cX4_number 237 = .ok (.lcmp, 1) := by decide +kernel
theorem dX4_number_238 : decode cX4_number 238 = .ok (.ifCond .lt 16, 3) := by decide +kernel
theorem dX4_number_241 : decode cX4_number 241 = .ok (.lload 5, 2) := by decide +kernel
theorem dX4_number_243 : decode cX4_number 243 = .ok (.ldc2_w 138, 3) := by decide +kernel
theorem dX4_number_246 : decode cX4_number 246 = .ok (.lcmp, 1) := by decide +kernel
theorem dX4_number_247 : decode cX4_number 247 = .ok (.ifCond .gt 7, 3) := by decide +kernel
theorem dX4_number_250 : decode cX4_number 250 = .ok (.iconst 1, 1) := by decide +kernel
theorem dX4_number_251 : decode cX4_number 251 = .ok (.goto 4, 3) := by decide +kernel
theorem dX4_number_254 : decode cX4_number 254 = .ok (.iconst 0, 1) := by decide +kernel
theorem dX4_number_255 : decode cX4_number 255 = .ok (.istore 4, 2) := by decide +kernel
theorem dX4_number_257 : decode cX4_number 257 = .ok (.iload 4, 2) := by decide +kernel
theorem dX4_number_259 : decode cX4_number 259 = .ok (.ifCond .eq 15, 3) := by decide +kernel
theorem dX4_number_262 : decode cX4_number 262 = .ok (.aload_n 0, 1) := by decide +kernel
theorem dX4_number_263 : decode cX4_number 263 = .ok (.iconst 4, 1) := by decide +kernel
theorem dX4_number_264 : decode cX4_number 264 = .ok (.lload 5, 2) := by decide +kernel
theorem dX4_number_266 : decode cX4_number 266 = .ok (.l2i, 1) := by decide +kernel
theorem dX4_number_267 : decode cX4_number 267 = .ok (.iconst 0, 1) := by decide +kernel
theorem dX4_number_268 : decode cX4_number 268 = .ok (.invokevirtual 104, 3) := by decide +kernel
theorem dX4_number_271 : decode cX4_number 271 = .ok (.goto 10, 3) := by decide +kernel
theorem dX4_number_274 : decode cX4_number 274 = .ok (.aload_n 0, 1) := by decide +kernel
theorem dX4_number_275 : decode cX4_number 275 = .ok (.iconst 5, 1) := by decide +kernel
theorem dX4_number_276 : decode cX4_number 276 = .ok (.iconst 0, 1) := by decide +kernel
theorem dX4_number_277 : decode cX4_number 277 = .ok (.iconst 0, 1) := by decide +kernel
theorem dX4_number_278 : decode cX4_number 278 = .ok (.invokevirtual 104, 3) := by decide +kernel
theorem dX4_number_281 : decode cX4_number 281 = .ok (.ireturn, 1) := by decide +kernel
theorem dX4_digits_0 : decode cX4_digits 0 = .ok (.aload_n 0, 1) := by decide +kernel
theorem dX4_digits_1 : decode cX4_digits 1 = .ok (.getfield 47, 3) := by decide +kernel
theorem dX4_digits_4 : decode cX4_digits 4 = .ok (.istore_n 1, 1) := by decide +kernel
theorem dX4_digits_5 : decode cX4_digits 5 = .ok (.aload_n 0, 1) := by decide +kernel
theorem dX4_digits_6 : decode cX4_digits 6 = .ok (.getfield 47, 3) := by decide +kernel
theorem dX4_digits_9 : decode cX4_digits 9 = .ok (.aload_n 0, 1) := by decide +kernel
theorem dX4_digits_10 : decode cX4_digits 10 = .ok (.getfield 43, 3) := by decide +kernel
theorem dX4_digits_13 : decode cX4_digits 13 = .ok (.if_icmp .ge 26, 3) := by decide +kernel
theorem dX4_digits_16 : decode cX4_digits 16 = .ok (.aload_n 0, 1) := by decide +kernel
theorem dX4_digits_17 : decode cX4_digits 17 = .ok (.invokevirtual 89, 3) := by decide +kernel
theorem dX4_digits_20 : decode cX4_digits 20 = .ok (.invokestatic 108, 3) := by decide +kernel
theorem dX4_digits_23 : decode cX4_digits 23 = .ok (.ifCond .eq 16, 3) := by decide +kernel
theorem dX4_digits_26 : decode cX4_digits 26 = .ok (.aload_n 0, 1) := by decide +kernel
theorem dX4_digits_27 : decode cX4_digits 27 = .ok (.dup, 1) := by decide +kernel
theorem dX4_digits_28 : decode cX4_digits 28 = .ok (.getfield 47, 3) := by decide +kernel
theorem dX4_digits_31 : decode cX4_digits 31 = .ok (.iconst 1, 1) := by decide +kernel
theorem dX4_digits_32 : decode cX4_digits 32 = .ok (.iadd, 1) := by decide +kernel
theorem dX4_digits_33 : decode cX4_digits 33 = .ok (.putfield 47, 3) := by decide +kernel
theorem dX4_digits_36 : decode cX4_digits 36 = .ok (.goto (-31), 3) := by decide +kernel
theorem dX4_digits_39 : decode cX4_digits 39 = .ok (.aload_n 0, 1) := by decide +kernel
theorem dX4_digits_40 : decode cX4_digits 40 = .ok (.getfield 47, 3) := by decide +kernel
theorem dX4_digits_43 : decode cX4_digits 43 = .ok (.iload_n 1, 1) := by decide +kernel
theorem dX4_digits_44 : decode cX4_digits 44 = .ok (.isub, 1) := by decide +kernel
theorem dX4_digits_45 : decode cX4_digits 45 = .ok (.ireturn, 1) := by decide +kernel
theorem dX4_isString_0 : decode cX4_isString 0 = .ok (.aload_n 0, 1) := by decide +kernel
theorem dX4_isString_1 : decode cX4_isString 1 = .ok (.invokevirtual 89, 3) := by decide +kernel
theorem dX4_isString_4 : decode cX4_isString 4 = .ok (.bipush 34, 2) := by decide +kernel
theorem dX4_isString_6 : decode cX4_isString 6 = .ok (.if_icmp .eq 5, 3) := by decide +kernel
theorem dX4_isString_9 : decode cX4_isString 9 = .ok (.iconst 0, 1) := by decide +kernel
theorem dX4_isString_10 : decode cX4_isString 10 = .ok (.ireturn, 1) := by decide +kernel
theorem dX4_isString_11 : decode cX4_isString 11 = .ok (.aload_n 0, 1) := by decide +kernel
theorem dX4_isString_12 : decode cX4_isString 12 = .ok (.dup, 1) := by decide +kernel
theorem dX4_isString_13 : decode cX4_isString 13 = .ok (.getfield 47, 3) := by decide +kernel
theorem dX4_isString_16 : decode cX4_isString 16 = .ok (.iconst 1, 1) := by decide +kernel
theorem dX4_isString_17 : decode cX4_isString 17 = .ok (.iadd, 1) := by decide +kernel
theorem dX4_isString_18 : decode cX4_isString 18 = .ok (.putfield 47, 3) := by decide +kernel
theorem dX4_isString_21 : decode cX4_isString 21 = .ok (.iconst 0, 1) := by decide +kernel
theorem dX4_isString_22 : decode cX4_isString 22 = .ok (.istore_n 1, 1) := by decide +kernel
theorem dX4_isString_23 : decode cX4_isString 23 = .ok (.iload_n 1, 1) := by decide +kernel
theorem dX4_isString_24 : decode cX4_isString 24 = .ok (.aload_n 0, 1) := by decide +kernel
theorem dX4_isString_25 : decode cX4_isString 25 = .ok (.getfield 43, 3) := by decide +kernel
theorem dX4_isString_28 : decode cX4_isString 28 = .ok (.if_icmp .ge 116, 3) := by decide +kernel
theorem dX4_isString_31 : decode cX4_isString 31 = .ok (.aload_n 0, 1) := by decide +kernel
theorem dX4_isString_32 : decode cX4_isString 32 = .ok (.getfield 47, 3) := by decide +kernel
theorem dX4_isString_35 : decode cX4_isString 35 = .ok (.aload_n 0, 1) := by decide +kernel
theorem dX4_isString_36 : decode cX4_isString 36 = .ok (.getfield 43, 3) := by decide +kernel
theorem dX4_isString_39 : decode cX4_isString 39 = .ok (.if_icmp .ge 105, 3) := by decide +kernel
theorem dX4_isString_42 : decode cX4_isString 42 = .ok (.aload_n 0, 1) := by decide +kernel
theorem dX4_isString_43 : decode cX4_isString 43 = .ok (.getfield 33, 3) := by decide +kernel
theorem dX4_isString_46 : decode cX4_isString 46 = .ok (.aload_n 0, 1) := by decide +kernel
theorem dX4_isString_47 : decode cX4_isString 47 = .ok (.getfield 47, 3) := by decide +kernel
theorem dX4_isString_50 : decode cX4_isString 50 = .ok (.aload_n 0, 1) := by decide +kernel
theorem dX4_isString_51 : decode cX4_isString 51 = .ok (.getfield 43, 3) := by decide +kernel
theorem dX4_isString_54 : decode cX4_isString 54 = .ok (.invokestatic 140, 3) := by decide +kernel
theorem dX4_isString_57 : decode cX4_isString 57 = .ok (.istore_n 2, 1) := by decide +kernel
theorem dX4_isString_58 : decode cX4_isString 58 = .ok (.iload_n 2, 1) := by decide +kernel
theorem dX4_isString_59 : decode cX4_isString 59 = .ok (.bipush 34, 2) := by decide +kernel
theorem dX4_isString_61 : decode cX4_isString 61 = .ok (.if_icmp .ne 15, 3) := by decide +kernel
theorem dX4_isString_64 : decode cX4_isString 64 = .ok (.aload_n 0, 1) := by decide +kernel
theorem dX4_isString_65 : decode cX4_isString 65 = .ok (.dup, 1) := by decide +kernel
theorem dX4_isString_66 : decode cX4_isString 66 = .ok (.getfield 47, 3) := by decide +kernel
theorem dX4_isString_69 : decode cX4_isString 69 = .ok (.iconst 1, 1) := by decide +kernel
theorem dX4_isString_70 : decode cX4_isString 70 = .ok (.iadd, 1) := by decide +kernel
theorem dX4_isString_71 : decode cX4_isString 71 = .ok (.putfield 47, 3) := by decide +kernel
theorem dX4_isString_74 : decode cX4_isString 74 = .ok (.iconst 1, 1) := by decide +kernel
theorem dX4_isString_75 : decode cX4_isString 75 = .ok (.ireturn, 1) := by decide +kernel
theorem dX4_isString_76 : decode cX4_isString 76 = .ok (.iload_n 2, 1) := by decide +kernel
theorem dX4_isString_77 : decode cX4_isString 77 = .ok (.bipush 32, 2) := by decide +kernel
theorem dX4_isString_79 : decode cX4_isString 79 = .ok (.if_icmp .ge 5, 3) := by decide +kernel
theorem dX4_isString_82 : decode cX4_isString 82 = .ok (.iconst 0, 1) := by decide +kernel
theorem dX4_isString_83 : decode cX4_isString 83 = .ok (.ireturn, 1) := by decide +kernel
theorem dX4_isString_84 : decode cX4_isString 84 = .ok (.iload_n 2, 1) := by decide +kernel
theorem dX4_isString_85 : decode cX4_isString 85 = .ok (.bipush 92, 2) := by decide +kernel
theorem dX4_isString_87 : decode cX4_isString 87 = .ok (.if_icmp .ne 33, 3) := by decide +kernel
theorem dX4_isString_90 : decode cX4_isString 90 = .ok (.aload_n 0, 1) := by decide +kernel
theorem dX4_isString_91 : decode cX4_isString 91 = .ok (.ldc 146, 2) := by decide +kernel
theorem dX4_isString_93 : decode cX4_isString 93 = .ok (.invokevirtual 116, 3) := by decide +kernel
theorem dX4_isString_96 : decode cX4_isString 96 = .ok (.ifCond .eq 10, 3) := by decide +kernel
theorem dX4_isString_99 : decode cX4_isString 99 = .ok (.aload_n 0, 1) := by decide +kernel
theorem dX4_isString_100 : decode cX4_isString 100 = .ok (.invokevirtual 148, 3) := by decide +kernel
theorem dX4_isString_103 : decode cX4_isString 103 = .ok (.goto 7, 3) := by decide +kernel
theorem dX4_isString_106 : decode cX4_isString 106 = .ok (.aload_n 0, 1) := by decide +kernel
theorem dX4_isString_107 : decode cX4_isString 107 = .ok (.invokevirtual 151, 3) := by decide +kernel
theorem dX4_isString_110 : decode cX4_isString 110 = .ok (.istore_n 3, 1) := by decide +kernel
theorem dX4_isString_111 : decode cX4_isString 111 = .ok (.iload_n 3, 1) := by decide +kernel
theorem dX4_isString_112 : decode cX4_isString 112 = .ok (.ifCond .ne 5, 3) := by decide +kernel
theorem dX4_isString_115 : decode cX4_isString 115 = .ok (.iconst 0, 1) := by decide +kernel
theorem dX4_isString_116 : decode cX4_isString 116 = .ok (.ireturn, 1) := by decide +kernel
theorem dX4_isString_117 : decode cX4_isString 117 = .ok (.goto 21, 3) := by decide +kernel
theorem dX4_isString_120 : decode cX4_isString 120 = .ok (.aload_n 0, 1) := by decide +kernel
theorem dX4_isString_121 : decode cX4_isString 121 = .ok (.dup, 1) := by decide +kernel
theorem dX4_isString_122 : decode cX4_isString 122 = .ok (.getfield 47, 3) := by decide +kernel
theorem dX4_isString_125 : decode cX4_isString 125 = .ok (.iload_n 2, 1) := by decide +kernel
theorem dX4_isString_126 : decode cX4_isString 126 = .ok (.invokestatic 154, 3) := by decide +kernel
theorem dX4_isString_129 : decode cX4_isString 129 = .ok (.iadd, 1) := by decide +kernel
theorem dX4_isString_130 : decode cX4_isString 130 = .ok (.putfield 47, 3) := by decide +kernel
theorem dX4_isString_133 : decode cX4_isString 133 = .ok (.aload_n 0, 1) := by decide +kernel
theorem dX4_isString_134 : decode cX4_isString 134 = .ok (.iload_n 2, 1) := by decide +kernel
theorem dX4_isString_135 : decode cX4_isString 135 = .ok (.invokevirtual 157, 3) := by decide +kernel
theorem dX4_isString_138 : decode cX4_isString 138 = .ok (.iinc 1 1, 3) := by decide +kernel
theorem dX4_isString_141 : decode cX4_isString 141 = .ok (.goto (-118), 3) := by decide +kernel
theorem dX4_isString_144 : decode cX4_isString 144 = .ok (.iconst 0, 1) := by decide +kernel
theorem dX4_isString_145 : decode cX4_isString 145 = .ok (.ireturn, 1) := by decide +kernel
theorem dX4_isEscape_0 : decode cX4_isEscape 0 = .ok (.aload_n 0, 1) := by decide +kernel
theorem dX4_isEscape_1 : decode cX4_isEscape 1 = .ok (.dup, 1) := by decide +kernel
theorem dX4_isEscape_2 : decode cX4_isEscape 2 = .ok (.getfield 47, 3) := by decide +kernel
theorem dX4_isEscape_5 : decode cX4_isEscape 5 = .ok (.iconst 1, 1) := by decide +kernel
theorem dX4_isEscape_6 : decode cX4_isEscape 6 = .ok (.iadd, 1) := by decide +kernel
theorem dX4_isEscape_7 : decode cX4_isEscape 7 = .ok (.putfield 47, 3) := by decide +kernel
theorem dX4_isEscape_10 : decode cX4_isEscape 10 = .ok (.aload_n 0, 1) := by decide +kernel
theorem dX4_isEscape_11 : decode cX4_isEscape 11 = .ok (.invokevirtual 89, 3) := by decide +kernel
theorem dX4_isEscape_14 : decode cX4_isEscape 14 = .ok (.istore_n 1, 1) := by decide +kernel
theorem dX4_isEscape_15 : decode cX4_isEscape 15 = .ok (.aload_n 0, 1) := by decide +kernel
theorem dX4_isEscape_16 : decode cX4_isEscape 16 = .ok (.dup, 1) := by decide +kernel
theorem dX4_isEscape_17 : decode cX4_isEscape 17 = .ok (.getfield 47, 3) := by decide +kernel
theorem dX4_isEscape_20 : decode cX4_isEscape 20 = .ok (.iconst 1, 1) := by decide +kernel
theorem dX4_isEscape_21 : decode cX4_isEscape 21 = .ok (.iadd, 1) := by decide +kernel
theorem dX4_isEscape_22 : decode cX4_isEscape 22 = .ok (.putfield 47, 3) := by decide +kernel
theorem dX4_isEscape_25 : decode cX4_isEscape 25 = .ok (.iload_n 1, 1) := by decide +kernel
theorem dX4_isEscape_26 : decode cX4_isEscape 26 = .ok (.lookupswitch 121 #[(34, 74), (47, 74), (92, 74), (98, 81), (102, 89), (110, 97), (114, 105), (116, 113)], 74) := by decide +kernel
theorem dX4_isEscape_100 : decode cX4_isEscape 100 = .ok (.aload_n 0, 1) := by decide +kernel
theorem dX4_isEscape_101 : decode cX4_isEscape 101 = .ok (.iload_n 1, 1) := by decide +kernel
theorem dX4_isEscape_102 : decode cX4_isEscape 102 = .ok (.invokevirtual 163, 3) := by decide +kernel
theorem dX4_isEscape_105 : decode cX4_isEscape 105 = .ok (.iconst 1, 1) := by decide +kernel
theorem dX4_isEscape_106 : decode cX4_isEscape 106 = .ok (.ireturn, 1) := by decide +kernel
theorem dX4_isEscape_107 : decode cX4_isEscape 107 = .ok (.aload_n 0, 1) := by decide +kernel
theorem dX4_isEscape_108 : decode cX4_isEscape 108 = .ok (.bipush 8, 2) := by decide +kernel
theorem dX4_isEscape_110 : decode cX4_isEscape 110 = .ok (.invokevirtual 163, 3) := by decide +kernel
theorem dX4_isEscape_113 : decode cX4_isEscape 113 = .ok (.iconst 1, 1) := by decide +kernel
theorem dX4_isEscape_114 : decode cX4_isEscape 114 = .ok (.ireturn, 1) := by decide +kernel
theorem dX4_isEscape_115 : decode cX4_isEscape 115 = .ok (.aload_n 0, 1) := by decide +kernel
theorem dX4_isEscape_116 : decode cX4_isEscape 116 = .ok (.bipush 12, 2) := by decide +kernel
theorem dX4_isEscape_118 : decode cX4_isEscape 118 = .ok (.invokevirtual 163, 3) := by decide +kernel
theorem dX4_isEscape_121 : decode cX4_isEscape 121 = .ok (.iconst 1, 1) := by decide +kernel
theorem dX4_isEscape_122 : decode cX4_isEscape 122 = .ok (.ireturn, 1) := by decide +kernel
theorem dX4_isEscape_123 : decode cX4_isEscape 123 = .ok (.aload_n 0, 1) := by decide +kernel
theorem dX4_isEscape_124 : decode cX4_isEscape 124 = .ok (.bipush 10, 2) := by decide +kernel
theorem dX4_isEscape_126 : decode cX4_isEscape 126 = .ok (.invokevirtual 163, 3) := by decide +kernel
theorem dX4_isEscape_129 : decode cX4_isEscape 129 = .ok (.iconst 1, 1) := by decide +kernel
theorem dX4_isEscape_130 : decode cX4_isEscape 130 = .ok (.ireturn, 1) := by decide +kernel
theorem dX4_isEscape_131 : decode cX4_isEscape 131 = .ok (.aload_n 0, 1) := by decide +kernel
theorem dX4_isEscape_132 : decode cX4_isEscape 132 = .ok (.bipush 13, 2) := by decide +kernel
theorem dX4_isEscape_134 : decode cX4_isEscape 134 = .ok (.invokevirtual 163, 3) := by decide +kernel
theorem dX4_isEscape_137 : decode cX4_isEscape 137 = .ok (.iconst 1, 1) := by decide +kernel
theorem dX4_isEscape_138 : decode cX4_isEscape 138 = .ok (.ireturn, 1) := by decide +kernel
theorem dX4_isEscape_139 : decode cX4_isEscape 139 = .ok (.aload_n 0, 1) := by decide +kernel
theorem dX4_isEscape_140 : decode cX4_isEscape 140 = .ok (.bipush 9, 2) := by decide +kernel
theorem dX4_isEscape_142 : decode cX4_isEscape 142 = .ok (.invokevirtual 163, 3) := by decide +kernel
theorem dX4_isEscape_145 : decode cX4_isEscape 145 = .ok (.iconst 1, 1) := by decide +kernel
theorem dX4_isEscape_146 : decode cX4_isEscape 146 = .ok (.ireturn, 1) := by decide +kernel
theorem dX4_isEscape_147 : decode cX4_isEscape 147 = .ok (.iconst 0, 1) := by decide +kernel
theorem dX4_isEscape_148 : decode cX4_isEscape 148 = .ok (.ireturn, 1) := by decide +kernel
theorem dX4_isUnitEscape_0 : decode cX4_isUnitEscape 0 = .ok (.aload_n 0, 1) := by decide +kernel
theorem dX4_isUnitEscape_1 : decode cX4_isUnitEscape 1 = .ok (.invokevirtual 167, 3) := by decide +kernel
theorem dX4_isUnitEscape_4 : decode cX4_isUnitEscape 4 = .ok (.istore_n 1, 1) := by decide +kernel
theorem dX4_isUnitEscape_5 : decode cX4_isUnitEscape 5 = .ok (.iload_n 1, 1) := by decide +kernel
theorem dX4_isUnitEscape_6 : decode cX4_isUnitEscape 6 = .ok (.ifCond .lt 10, 3) := by decide +kernel
theorem dX4_isUnitEscape_9 : decode cX4_isUnitEscape 9 = .ok (.iload_n 1, 1) := by decide +kernel
theorem dX4_isUnitEscape_10 : decode cX4_isUnitEscape 10 = .ok (.invokestatic 170, 3) := by decide +kernel
theorem dX4_isUnitEscape_13 : decode cX4_isUnitEscape 13 = .ok (.ifCond .eq 5, 3) := by decide +kernel
theorem dX4_isUnitEscape_16 : decode cX4_isUnitEscape 16 = .ok (.iconst 0, 1) := by decide +kernel
theorem dX4_isUnitEscape_17 : decode cX4_isUnitEscape 17 = .ok (.ireturn, 1) := by decide +kernel
theorem dX4_isUnitEscape_18 : decode cX4_isUnitEscape 18 = .ok (.aload_n 0, 1) := by decide +kernel
theorem dX4_isUnitEscape_19 : decode cX4_isUnitEscape 19 = .ok (.iload_n 1, 1) := by decide +kernel
theorem dX4_isUnitEscape_20 : decode cX4_isUnitEscape 20 = .ok (.invokevirtual 163, 3) := by decide +kernel
theorem dX4_isUnitEscape_23 : decode cX4_isUnitEscape 23 = .ok (.iload_n 1, 1) := by decide +kernel
theorem dX4_isUnitEscape_24 : decode cX4_isUnitEscape 24 = .ok (.invokestatic 173, 3) := by decide +kernel
theorem dX4_isUnitEscape_27 : decode cX4_isUnitEscape 27 = .ok (.ifCond .ne 5, 3) := by decide +kernel
theorem dX4_isUnitEscape_30 : decode cX4_isUnitEscape 30 = .ok (.iconst 1, 1) := by decide +kernel
theorem dX4_isUnitEscape_31 : decode cX4_isUnitEscape 31 = .ok (.ireturn, 1) := by decide +kernel
theorem dX4_isUnitEscape_32 : decode cX4_isUnitEscape 32 = .ok (.aload_n 0, 1) := by decide +kernel
theorem dX4_isUnitEscape_33 : decode cX4_isUnitEscape 33 = .ok (.ldc 146, 2) := by decide +kernel
theorem dX4_isUnitEscape_35 : decode cX4_isUnitEscape 35 = .ok (.invokevirtual 116, 3) := by decide +kernel
theorem dX4_isUnitEscape_38 : decode cX4_isUnitEscape 38 = .ok (.ifCond .ne 5, 3) := by decide +kernel
theorem dX4_isUnitEscape_41 : decode cX4_isUnitEscape 41 = .ok (.iconst 0, 1) := by decide +kernel
theorem dX4_isUnitEscape_42 : decode cX4_isUnitEscape 42 = .ok (.ireturn, 1) := by decide +kernel
theorem dX4_isUnitEscape_43 : decode cX4_isUnitEscape 43 = .ok (.aload_n 0, 1) := by decide +kernel
theorem dX4_isUnitEscape_44 : decode cX4_isUnitEscape 44 = .ok (.invokevirtual 167, 3) := by decide +kernel
theorem dX4_isUnitEscape_47 : decode cX4_isUnitEscape 47 = .ok (.istore_n 2, 1) := by decide +kernel
theorem dX4_isUnitEscape_48 : decode cX4_isUnitEscape 48 = .ok (.aload_n 0, 1) := by decide +kernel
theorem dX4_isUnitEscape_49 : decode cX4_isUnitEscape 49 = .ok (.iload_n 2, 1) := by decide +kernel
theorem dX4_isUnitEscape_50 : decode cX4_isUnitEscape 50 = .ok (.invokevirtual 163, 3) := by decide +kernel
theorem dX4_isUnitEscape_53 : decode cX4_isUnitEscape 53 = .ok (.iload_n 2, 1) := by decide +kernel
theorem dX4_isUnitEscape_54 : decode cX4_isUnitEscape 54 = .ok (.invokestatic 170, 3) := by decide +kernel
theorem dX4_isUnitEscape_57 : decode cX4_isUnitEscape 57 = .ok (.ireturn, 1) := by decide +kernel
theorem dX4_fourDigits_0 : decode cX4_fourDigits 0 = .ok (.iconst 0, 1) := by decide +kernel
theorem dX4_fourDigits_1 : decode cX4_fourDigits 1 = .ok (.istore_n 1, 1) := by decide +kernel
theorem dX4_fourDigits_2 : decode cX4_fourDigits 2 = .ok (.iconst 0, 1) := by decide +kernel
theorem dX4_fourDigits_3 : decode cX4_fourDigits 3 = .ok (.istore_n 2, 1) := by decide +kernel
theorem dX4_fourDigits_4 : decode cX4_fourDigits 4 = .ok (.iload_n 2, 1) := by decide +kernel
theorem dX4_fourDigits_5 : decode cX4_fourDigits 5 = .ok (.iconst 4, 1) := by decide +kernel
theorem dX4_fourDigits_6 : decode cX4_fourDigits 6 = .ok (.if_icmp .ge 131, 3) := by decide +kernel
theorem dX4_fourDigits_9 : decode cX4_fourDigits 9 = .ok (.aload_n 0, 1) := by decide +kernel
theorem dX4_fourDigits_10 : decode cX4_fourDigits 10 = .ok (.getfield 47, 3) := by decide +kernel
theorem dX4_fourDigits_13 : decode cX4_fourDigits 13 = .ok (.aload_n 0, 1) := by decide +kernel
theorem dX4_fourDigits_14 : decode cX4_fourDigits 14 = .ok (.getfield 43, 3) := by decide +kernel
theorem dX4_fourDigits_17 : decode cX4_fourDigits 17 = .ok (.if_icmp .ge 15, 3) := by decide +kernel
theorem dX4_fourDigits_20 : decode cX4_fourDigits 20 = .ok (.aload_n 0, 1) := by decide +kernel
theorem dX4_fourDigits_21 : decode cX4_fourDigits 21 = .ok (.getfield 33, 3) := by decide +kernel
theorem dX4_fourDigits_24 : decode cX4_fourDigits 24 = .ok (.aload_n 0, 1) := by decide +kernel
theorem dX4_fourDigits_25 : decode cX4_fourDigits 25 = .ok (.getfield 47, 3) := by decide +kernel
theorem dX4_fourDigits_28 : decode cX4_fourDigits 28 = .ok (.baload, 1) := by decide +kernel
theorem dX4_fourDigits_29 : decode cX4_fourDigits 29 = .ok (.goto 4, 3) := by decide +kernel
theorem dX4_fourDigits_32 : decode cX4_fourDigits 32 = .ok (.iconst (-1), 1) := by decide +kernel
theorem dX4_fourDigits_33 : decode cX4_fourDigits 33 = .ok (.istore_n 3, 1) := by decide +kernel
theorem dX4_fourDigits_34 : decode cX4_fourDigits 34 = .ok (.iload_n 3, 1) := by decide +kernel
theorem dX4_fourDigits_35 : decode cX4_fourDigits 35 = .ok (.bipush 65, 2) := by decide +kernel
theorem dX4_fourDigits_37 : decode cX4_fourDigits 37 = .ok (.if_icmp .lt 16, 3) := by decide +kernel
theorem dX4_fourDigits_40 : decode cX4_fourDigits 40 = .ok (.iload_n 3, 1) := by decide +kernel
theorem dX4_fourDigits_41 : decode cX4_fourDigits 41 = .ok (.bipush 70, 2) := by decide +kernel
theorem dX4_fourDigits_43 : decode cX4_fourDigits 43 = .ok (.if_icmp .gt 10, 3) := by decide +kernel
theorem dX4_fourDigits_46 : decode cX4_fourDigits 46 = .ok (.iload_n 3, 1) := by decide +kernel
theorem dX4_fourDigits_47 : decode cX4_fourDigits 47 = .ok (.bipush 32, 2) := by decide +kernel
theorem dX4_fourDigits_49 : decode cX4_fourDigits 49 = .ok (.iadd, 1) := by decide +kernel
theorem dX4_fourDigits_50 : decode cX4_fourDigits 50 = .ok (.goto 4, 3) := by decide +kernel
theorem dX4_fourDigits_53 : decode cX4_fourDigits 53 = .ok (.iload_n 3, 1) := by decide +kernel
theorem dX4_fourDigits_54 : decode cX4_fourDigits 54 = .ok (.istore 4, 2) := by decide +kernel
theorem dX4_fourDigits_56 : decode cX4_fourDigits 56 = .ok (.iload 4, 2) := by decide +kernel
theorem dX4_fourDigits_58 : decode cX4_fourDigits 58 = .ok (.bipush 97, 2) := by decide +kernel
theorem dX4_fourDigits_60 : decode cX4_fourDigits 60 = .ok (.if_icmp .lt 14, 3) := by decide +kernel
theorem dX4_fourDigits_63 : decode cX4_fourDigits 63 = .ok (.iload 4, 2) := by decide +kernel
theorem dX4_fourDigits_65 : decode cX4_fourDigits 65 = .ok (.bipush 102, 2) := by decide +kernel
theorem dX4_fourDigits_67 : decode cX4_fourDigits 67 = .ok (.if_icmp .gt 7, 3) := by decide +kernel
theorem dX4_fourDigits_70 : decode cX4_fourDigits 70 = .ok (.iconst 1, 1) := by decide +kernel
theorem dX4_fourDigits_71 : decode cX4_fourDigits 71 = .ok (.goto 4, 3) := by decide +kernel
theorem dX4_fourDigits_74 : decode cX4_fourDigits 74 = .ok (.iconst 0, 1) := by decide +kernel
theorem dX4_fourDigits_75 : decode cX4_fourDigits 75 = .ok (.istore 5, 2) := by decide +kernel
theorem dX4_fourDigits_77 : decode cX4_fourDigits 77 = .ok (.iload 5, 2) := by decide +kernel
theorem dX4_fourDigits_79 : decode cX4_fourDigits 79 = .ok (.ifCond .ne 17, 3) := by decide +kernel
theorem dX4_fourDigits_82 : decode cX4_fourDigits 82 = .ok (.iload_n 3, 1) := by decide +kernel
theorem dX4_fourDigits_83 : decode cX4_fourDigits 83 = .ok (.bipush 48, 2) := by decide +kernel
theorem dX4_fourDigits_85 : decode cX4_fourDigits 85 = .ok (.if_icmp .lt 9, 3) := by decide +kernel
theorem dX4_fourDigits_88 : decode cX4_fourDigits 88 = .ok (.iload_n 3, 1) := by decide +kernel
theorem dX4_fourDigits_89 : decode cX4_fourDigits 89 = .ok (.bipush 57, 2) := by decide +kernel
theorem dX4_fourDigits_91 : decode cX4_fourDigits 91 = .ok (.if_icmp .le 5, 3) := by decide +kernel
theorem dX4_fourDigits_94 : decode cX4_fourDigits 94 = .ok (.iconst (-1), 1) := by decide +kernel
theorem dX4_fourDigits_95 : decode cX4_fourDigits 95 = .ok (.ireturn, 1) := by decide +kernel
theorem dX4_fourDigits_96 : decode cX4_fourDigits 96 = .ok (.iload_n 1, 1) := by decide +kernel
theorem dX4_fourDigits_97 : decode cX4_fourDigits 97 = .ok (.iconst 4, 1) := by decide +kernel
theorem dX4_fourDigits_98 : decode cX4_fourDigits 98 = .ok (.ishl, 1) := by decide +kernel
theorem dX4_fourDigits_99 : decode cX4_fourDigits 99 = .ok (.iload 5, 2) := by decide +kernel
theorem dX4_fourDigits_101 : decode cX4_fourDigits 101 = .ok (.ifCond .eq 14, 3) := by decide +kernel
theorem dX4_fourDigits_104 : decode cX4_fourDigits 104 = .ok (.iload 4, 2) := by decide +kernel
theorem dX4_fourDigits_106 : decode cX4_fourDigits 106 = .ok (.bipush 97, 2) := by decide +kernel
theorem dX4_fourDigits_108 : decode cX4_fourDigits 108 = .ok (.isub, 1) := by decide +kernel
theorem dX4_fourDigits_109 : decode cX4_fourDigits 109 = .ok (.bipush 10, 2) := by decide +kernel
theorem dX4_fourDigits_111 : decode cX4_fourDigits 111 = .ok (.iadd, 1) := by decide +kernel
theorem dX4_fourDigits_112 : decode cX4_fourDigits 112 = .ok (.goto 7, 3) := by decide +kernel
theorem dX4_fourDigits_115 : decode cX4_fourDigits 115 = .ok (.iload_n 3, 1) := by decide +kernel
theorem dX4_fourDigits_116 : decode cX4_fourDigits 116 = .ok (.bipush 48, 2) := by decide +kernel
theorem dX4_fourDigits_118 : decode cX4_fourDigits 118 = .ok (.isub, 1) := by decide +kernel
theorem dX4_fourDigits_119 : decode cX4_fourDigits 119 = .ok (.ior, 1) := by decide +kernel
theorem dX4_fourDigits_120 : decode cX4_fourDigits 120 = .ok (.istore_n 1, 1) := by decide +kernel
theorem dX4_fourDigits_121 : decode cX4_fourDigits 121 = .ok (.aload_n 0, 1) := by decide +kernel
theorem dX4_fourDigits_122 : decode cX4_fourDigits 122 = .ok (.dup, 1) := by decide +kernel
theorem dX4_fourDigits_123 : decode cX4_fourDigits 123 = .ok (.getfield 47, 3) := by decide +kernel
theorem dX4_fourDigits_126 : decode cX4_fourDigits 126 = .ok (.iconst 1, 1) := by decide +kernel
theorem dX4_fourDigits_127 : decode cX4_fourDigits 127 = .ok (.iadd, 1) := by decide +kernel
theorem dX4_fourDigits_128 : decode cX4_fourDigits 128 = .ok (.putfield 47, 3) := by decide +kernel
theorem dX4_fourDigits_131 : decode cX4_fourDigits 131 = .ok (.iinc 2 1, 3) := by decide +kernel
theorem dX4_fourDigits_134 : decode cX4_fourDigits 134 = .ok (.goto (-130), 3) := by decide +kernel
theorem dX4_fourDigits_137 : decode cX4_fourDigits 137 = .ok (.iload_n 1, 1) := by decide +kernel
theorem dX4_fourDigits_138 : decode cX4_fourDigits 138 = .ok (.ireturn, 1) := by decide +kernel
end
section
theorem dX4_value_0 : decode cX4_value 0 = .ok (.aload_n 0, 1) := by decide +kernel
theorem dX4_value_1 : decode cX4_value 1 = .ok (.invokevirtual 89, 3) := by decide +kernel
theorem dX4_value_4 : decode cX4_value 4 = .ok (.istore_n 2, 1) := by decide +kernel
theorem dX4_value_5 : decode cX4_value 5 = .ok (.iload_n 2, 1) := by decide +kernel
theorem dX4_value_6 : decode cX4_value 6 = .ok (.bipush 123, 2) := by decide +kernel
theorem dX4_value_8 : decode cX4_value 8 = .ok (.if_icmp .eq 9, 3) := by decide +kernel
theorem dX4_value_11 : decode cX4_value 11 = .ok (.iload_n 2, 1) := by decide +kernel
theorem dX4_value_12 : decode cX4_value 12 = .ok (.bipush 91, 2) := by decide +kernel
theorem dX4_value_14 : decode cX4_value 14 = .ok (.if_icmp .ne 32, 3) := by decide +kernel
theorem dX4_value_17 : decode cX4_value 17 = .ok (.iload_n 1, 1) := by decide +kernel
theorem dX4_value_18 : decode cX4_value 18 = .ok (.bipush 10, 2) := by decide +kernel
theorem dX4_value_20 : decode cX4_value 20 = .ok (.if_icmp .ge 24, 3) := by decide +kernel
theorem dX4_value_23 : decode cX4_value 23 = .ok (.aload_n 0, 1) := by decide +kernel
theorem dX4_value_24 : decode cX4_value 24 = .ok (.iload_n 1, 1) := by decide +kernel
theorem dX4_value_25 : decode cX4_value 25 = .ok (.iconst 1, 1) := by decide +kernel
theorem dX4_value_26 : decode cX4_value 26 = .ok (.iadd, 1) := by decide +kernel
theorem dX4_value_27 : decode cX4_value 27 = .ok (.iload_n 2, 1) := by decide +kernel
theorem dX4_value_28 : decode cX4_value 28 = .ok (.bipush 123, 2) := by decide +kernel
theorem dX4_value_30 : decode cX4_value 30 = .ok (.if_icmp .ne 7, 3) := by decide +kernel
theorem dX4_value_33 : decode cX4_value 33 = .ok (.iconst 1, 1) := by decide +kernel
theorem dX4_value_34 : decode cX4_value 34 = .ok (.goto 4, 3) := by decide +kernel
theorem dX4_value_37 : decode cX4_value 37 = .ok (.iconst 0, 1) := by decide +kernel
theorem dX4_value_38 : decode cX4_value 38 = .ok (.invokevirtual 96, 3) := by decide +kernel
theorem dX4_value_41 : decode cX4_value 41 = .ok (.goto 4, 3) := by decide +kernel
theorem dX4_value_44 : decode cX4_value 44 = .ok (.iconst (-1), 1) := by decide +kernel
theorem dX4_value_45 : decode cX4_value 45 = .ok (.ireturn, 1) := by decide +kernel
theorem dX4_value_46 : decode cX4_value 46 = .ok (.iload_n 2, 1) := by decide +kernel
theorem dX4_value_47 : decode cX4_value 47 = .ok (.bipush 34, 2) := by decide +kernel
theorem dX4_value_49 : decode cX4_value 49 = .ok (.if_icmp .ne 32, 3) := by decide +kernel
theorem dX4_value_52 : decode cX4_value 52 = .ok (.aload_n 0, 1) := by decide +kernel
theorem dX4_value_53 : decode cX4_value 53 = .ok (.getfield 53, 3) := by decide +kernel
theorem dX4_value_56 : decode cX4_value 56 = .ok (.istore_n 3, 1) := by decide +kernel
theorem dX4_value_57 : decode cX4_value 57 = .ok (.aload_n 0, 1) := by decide +kernel
theorem dX4_value_58 : decode cX4_value 58 = .ok (.invokevirtual 100, 3) := by decide +kernel
theorem dX4_value_61 : decode cX4_value 61 = .ok (.ifCond .eq 18, 3) := by decide +kernel
theorem dX4_value_64 : decode cX4_value 64 = .ok (.aload_n 0, 1) := by decide +kernel
theorem dX4_value_65 : decode cX4_value 65 = .ok (.iconst 3, 1) := by decide +kernel
theorem dX4_value_66 : decode cX4_value 66 = .ok (.iload_n 3, 1) := by decide +kernel
theorem dX4_value_67 : decode cX4_value 67 = .ok (.aload_n 0, 1) := by decide +kernel
theorem dX4_value_68 : decode cX4_value 68 = .ok (.getfield 53, 3) := by decide +kernel
theorem dX4_value_71 : decode cX4_value 71 = .ok (.iload_n 3, 1) := by decide +kernel
theorem dX4_value_72 : decode cX4_value 72 = .ok (.isub, 1) := by decide +kernel
theorem dX4_value_73 : decode cX4_value 73 = .ok (.invokevirtual 104, 3) := by decide +kernel
theorem dX4_value_76 : decode cX4_value 76 = .ok (.goto 4, 3) := by decide +kernel
theorem dX4_value_79 : decode cX4_value 79 = .ok (.iconst (-1), 1) := by decide +kernel
theorem dX4_value_80 : decode cX4_value 80 = .ok (.ireturn, 1) := by decide +kernel
theorem dX4_value_81 : decode cX4_value 81 = .ok (.iload_n 2, 1) := by decide +kernel
theorem dX4_value_82 : decode cX4_value 82 = .ok (.bipush 45, 2) := by decide +kernel
theorem dX4_value_84 : decode cX4_value 84 = .ok (.if_icmp .eq 10, 3) := by decide +kernel
theorem dX4_value_87 : decode cX4_value 87 = .ok (.iload_n 2, 1) := by decide +kernel
theorem dX4_value_88 : decode cX4_value 88 = .ok (.invokestatic 108, 3) := by decide +kernel
theorem dX4_value_91 : decode cX4_value 91 = .ok (.ifCond .eq 8, 3) := by decide +kernel
theorem dX4_value_94 : decode cX4_value 94 = .ok (.aload_n 0, 1) := by decide +kernel
theorem dX4_value_95 : decode cX4_value 95 = .ok (.invokevirtual 111, 3) := by decide +kernel
theorem dX4_value_98 : decode cX4_value 98 = .ok (.ireturn, 1) := by decide +kernel
theorem dX4_value_99 : decode cX4_value 99 = .ok (.aload_n 0, 1) := by decide +kernel
theorem dX4_value_100 : decode cX4_value 100 = .ok (.ldc 114, 2) := by decide +kernel
theorem dX4_value_102 : decode cX4_value 102 = .ok (.invokevirtual 116, 3) := by decide +kernel
theorem dX4_value_105 : decode cX4_value 105 = .ok (.ifCond .ne 21, 3) := by decide +kernel
theorem dX4_value_108 : decode cX4_value 108 = .ok (.aload_n 0, 1) := by decide +kernel
theorem dX4_value_109 : decode cX4_value 109 = .ok (.ldc 120, 2) := by decide +kernel
theorem dX4_value_111 : decode cX4_value 111 = .ok (.invokevirtual 116, 3) := by decide +kernel
theorem dX4_value_114 : decode cX4_value 114 = .ok (.ifCond .ne 12, 3) := by decide +kernel
theorem dX4_value_117 : decode cX4_value 117 = .ok (.aload_n 0, 1) := by decide +kernel
theorem dX4_value_118 : decode cX4_value 118 = .ok (.ldc 122, 2) := by decide +kernel
theorem dX4_value_120 : decode cX4_value 120 = .ok (.invokevirtual 116, 3) := by decide +kernel
theorem dX4_value_123 : decode cX4_value 123 = .ok (.ifCond .eq 7, 3) := by decide +kernel
theorem dX4_value_126 : decode cX4_value 126 = .ok (.iconst 1, 1) := by decide +kernel
theorem dX4_value_127 : decode cX4_value 127 = .ok (.goto 4, 3) := by decide +kernel
theorem dX4_value_130 : decode cX4_value 130 = .ok (.iconst 0, 1) := by decide +kernel
theorem dX4_value_131 : decode cX4_value 131 = .ok (.istore_n 3, 1) := by decide +kernel
theorem dX4_value_132 : decode cX4_value 132 = .ok (.iload_n 3, 1) := by decide +kernel
theorem dX4_value_133 : decode cX4_value 133 = .ok (.ifCond .eq 13, 3) := by decide +kernel
theorem dX4_value_136 : decode cX4_value 136 = .ok (.aload_n 0, 1) := by decide +kernel
theorem dX4_value_137 : decode cX4_value 137 = .ok (.iconst 5, 1) := by decide +kernel
theorem dX4_value_138 : decode cX4_value 138 = .ok (.iconst 0, 1) := by decide +kernel
theorem dX4_value_139 : decode cX4_value 139 = .ok (.iconst 0, 1) := by decide +kernel
theorem dX4_value_140 : decode cX4_value 140 = .ok (.invokevirtual 104, 3) := by decide +kernel
theorem dX4_value_143 : decode cX4_value 143 = .ok (.goto 4, 3) := by decide +kernel
theorem dX4_value_146 : decode cX4_value 146 = .ok (.iconst (-1), 1) := by decide +kernel
theorem dX4_value_147 : decode cX4_value 147 = .ok (.ireturn, 1) := by decide +kernel
theorem dX4_holder_0 : decode cX4_holder 0 = .ok (.aload_n 0, 1) := by decide +kernel
theorem dX4_holder_1 : decode cX4_holder 1 = .ok (.iload_n 2, 1) := by decide +kernel
theorem dX4_holder_2 : decode cX4_holder 2 = .ok (.ifCond .eq 7, 3) := by decide +kernel
theorem dX4_holder_5 : decode cX4_holder 5 = .ok (.iconst 1, 1) := by decide +kernel
theorem dX4_holder_6 : decode cX4_holder 6 = .ok (.goto 4, 3) := by decide +kernel
theorem dX4_holder_9 : decode cX4_holder 9 = .ok (.iconst 2, 1) := by decide +kernel
theorem dX4_holder_10 : decode cX4_holder 10 = .ok (.iconst (-1), 1) := by decide +kernel
theorem dX4_holder_11 : decode cX4_holder 11 = .ok (.iconst 0, 1) := by decide +kernel
theorem dX4_holder_12 : decode cX4_holder 12 = .ok (.invokevirtual 104, 3) := by decide +kernel
theorem dX4_holder_15 : decode cX4_holder 15 = .ok (.istore_n 3, 1) := by decide +kernel
theorem dX4_holder_16 : decode cX4_holder 16 = .ok (.iload_n 2, 1) := by decide +kernel
theorem dX4_holder_17 : decode cX4_holder 17 = .ok (.ifCond .eq 8, 3) := by decide +kernel
theorem dX4_holder_20 : decode cX4_holder 20 = .ok (.bipush 125, 2) := by decide +kernel
theorem dX4_holder_22 : decode cX4_holder 22 = .ok (.goto 5, 3) := by decide +kernel
theorem dX4_holder_25 : decode cX4_holder 25 = .ok (.bipush 93, 2) := by decide +kernel
theorem dX4_holder_27 : decode cX4_holder 27 = .ok (.istore 4, 2) := by decide +kernel
theorem dX4_holder_29 : decode cX4_holder 29 = .ok (.aload_n 0, 1) := by decide +kernel
theorem dX4_holder_30 : decode cX4_holder 30 = .ok (.dup, 1) := by decide +kernel
theorem dX4_holder_31 : decode cX4_holder 31 = .ok (.getfield 47, 3) := by decide +kernel
theorem dX4_holder_34 : decode cX4_holder 34 = .ok (.iconst 1, 1) := by decide +kernel
theorem dX4_holder_35 : decode cX4_holder 35 = .ok (.iadd, 1) := by decide +kernel
theorem dX4_holder_36 : decode cX4_holder 36 = .ok (.putfield 47, 3) := by decide +kernel
theorem dX4_holder_39 : decode cX4_holder 39 = .ok (.aload_n 0, 1) := by decide +kernel
theorem dX4_holder_40 : decode cX4_holder 40 = .ok (.invokevirtual 56, 3) := by decide +kernel
theorem dX4_holder_43 : decode cX4_holder 43 = .ok (.aload_n 0, 1) := by decide +kernel
theorem dX4_holder_44 : decode cX4_holder 44 = .ok (.invokevirtual 89, 3) := by decide +kernel
theorem dX4_holder_47 : decode cX4_holder 47 = .ok (.iload 4, 2) := by decide +kernel
theorem dX4_holder_49 : decode cX4_holder 49 = .ok (.if_icmp .ne 15, 3) := by decide +kernel
theorem dX4_holder_52 : decode cX4_holder 52 = .ok (.aload_n 0, 1) := by decide +kernel
theorem dX4_holder_53 : decode cX4_holder 53 = .ok (.dup, 1) := by decide +kernel
theorem dX4_holder_54 : decode cX4_holder 54 = .ok (.getfield 47, 3) := by decide +kernel
theorem dX4_holder_57 : decode cX4_holder 57 = .ok (.iconst 1, 1) := by decide +kernel
theorem dX4_holder_58 : decode cX4_holder 58 = .ok (.iadd, 1) := by decide +kernel
theorem dX4_holder_59 : decode cX4_holder 59 = .ok (.putfield 47, 3) := by decide +kernel
theorem dX4_holder_62 : decode cX4_holder 62 = .ok (.iload_n 3, 1) := by decide +kernel
theorem dX4_holder_63 : decode cX4_holder 63 = .ok (.ireturn, 1) := by decide +kernel
theorem dX4_holder_64 : decode cX4_holder 64 = .ok (.iconst (-1), 1) := by decide +kernel
theorem dX4_holder_65 : decode cX4_holder 65 = .ok (.istore 5, 2) := by decide +kernel
theorem dX4_holder_67 : decode cX4_holder 67 = .ok (.iconst 0, 1) := by decide +kernel
theorem dX4_holder_68 : decode cX4_holder 68 = .ok (.istore 6, 2) := by decide +kernel
theorem dX4_holder_70 : decode cX4_holder 70 = .ok (.iload 6, 2) := by decide +kernel
theorem dX4_holder_72 : decode cX4_holder 72 = .ok (.sipush 1502, 3) := by decide +kernel
theorem dX4_holder_75 : decode cX4_holder 75 = .ok (.if_icmp .ge 169, 3) := by decide +kernel
theorem dX4_holder_78 : decode cX4_holder 78 = .ok (.iload_n 3, 1) := by decide +kernel
theorem dX4_holder_79 : decode cX4_holder 79 = .ok (.ifCond .lt 165, 3) := by decide +kernel
theorem dX4_holder_82 : decode cX4_holder 82 = .ok (.aload_n 0, 1) := by decide +kernel
theorem dX4_holder_83 : decode cX4_holder 83 = .ok (.getfield 53, 3) := by decide +kernel
theorem dX4_holder_86 : decode cX4_holder 86 = .ok (.istore 7, 2) := by decide +kernel
theorem dX4_holder_88 : decode cX4_holder 88 = .ok (.iload_n 2, 1) := by decide +kernel
theorem dX4_holder_89 : decode cX4_holder 89 = .ok (.ifCond .eq 12, 3) := by decide +kernel
theorem dX4_holder_92 : decode cX4_holder 92 = .ok (.aload_n 0, 1) := by decide +kernel
theorem dX4_holder_93 : decode cX4_holder 93 = .ok (.invokevirtual 100, 3) := by decide +kernel
theorem dX4_holder_96 : decode cX4_holder 96 = .ok (.ifCond .ne 5, 3) := by decide +kernel
theorem dX4_holder_99 : decode cX4_holder 99 = .ok (.iconst (-1), 1) := by decide +kernel
theorem dX4_holder_100 : decode cX4_holder 100 = .ok (.ireturn, 1) := by decide +kernel
theorem dX4_holder_101 : decode cX4_holder 101 = .ok (.aload_n 0, 1) := by decide +kernel
theorem dX4_holder_102 : decode cX4_holder 102 = .ok (.getfield 53, 3) := by decide +kernel
theorem dX4_holder_105 : decode cX4_holder 105 = .ok (.iload 7, 2) := by decide +kernel
theorem dX4_holder_107 : decode cX4_holder 107 = .ok (.isub, 1) := by decide +kernel
theorem dX4_holder_108 : decode cX4_holder 108 = .ok (.istore 8, 2) := by decide +kernel
theorem dX4_holder_110 : decode cX4_holder 110 = .ok (.iload_n 2, 1) := by decide +kernel
theorem dX4_holder_111 : decode cX4_holder 111 = .ok (.ifCond .eq 12, 3) := by decide +kernel
theorem dX4_holder_114 : decode cX4_holder 114 = .ok (.aload_n 0, 1) := by decide +kernel
theorem dX4_holder_115 : decode cX4_holder 115 = .ok (.invokevirtual 124, 3) := by decide +kernel
theorem dX4_holder_118 : decode cX4_holder 118 = .ok (.ifCond .ne 5, 3) := by decide +kernel
theorem dX4_holder_121 : decode cX4_holder 121 = .ok (.iconst (-1), 1) := by decide +kernel
theorem dX4_holder_122 : decode cX4_holder 122 = .ok (.ireturn, 1) := by decide +kernel
theorem dX4_holder_123 : decode cX4_holder 123 = .ok (.aload_n 0, 1) := by decide +kernel
theorem dX4_holder_124 : decode cX4_holder 124 = .ok (.iload_n 1, 1) := by decide +kernel
theorem dX4_holder_125 : decode cX4_holder 125 = .ok (.invokevirtual 59, 3) := by decide +kernel
theorem dX4_holder_128 : decode cX4_holder 128 = .ok (.istore 9, 2) := by decide +kernel
theorem dX4_holder_130 : decode cX4_holder 130 = .ok (.iload 9, 2) := by decide +kernel
theorem dX4_holder_132 : decode cX4_holder 132 = .ok (.ifCond .ge 5, 3) := by decide +kernel
theorem dX4_holder_135 : decode cX4_holder 135 = .ok (.iconst (-1), 1) := by decide +kernel
theorem dX4_holder_136 : decode cX4_holder 136 = .ok (.ireturn, 1) := by decide +kernel
theorem dX4_holder_137 : decode cX4_holder 137 = .ok (.aload_n 0, 1) := by decide +kernel
theorem dX4_holder_138 : decode cX4_holder 138 = .ok (.getfield 24, 3) := by decide +kernel
theorem dX4_holder_141 : decode cX4_holder 141 = .ok (.iload 9, 2) := by decide +kernel
theorem dX4_holder_143 : decode cX4_holder 143 = .ok (.iload 7, 2) := by decide +kernel
theorem dX4_holder_145 : decode cX4_holder 145 = .ok (.iastore, 1) := by decide +kernel
theorem dX4_holder_146 : decode cX4_holder 146 = .ok (.aload_n 0, 1) := by decide +kernel
theorem dX4_holder_147 : decode cX4_holder 147 = .ok (.getfield 27, 3) := by decide +kernel
theorem dX4_holder_150 : decode cX4_holder 150 = .ok (.iload 9, 2) := by decide +kernel
theorem dX4_holder_152 : decode cX4_holder 152 = .ok (.iload 8, 2) := by decide +kernel
theorem dX4_holder_154 : decode cX4_holder 154 = .ok (.iastore, 1) := by decide +kernel
theorem dX4_holder_155 : decode cX4_holder 155 = .ok (.iload 5, 2) := by decide +kernel
theorem dX4_holder_157 : decode cX4_holder 157 = .ok (.ifCond .ge 14, 3) := by decide +kernel
theorem dX4_holder_160 : decode cX4_holder 160 = .ok (.aload_n 0, 1) := by decide +kernel
theorem dX4_holder_161 : decode cX4_holder 161 = .ok (.getfield 15, 3) := by decide +kernel
theorem dX4_holder_164 : decode cX4_holder 164 = .ok (.iload_n 3, 1) := by decide +kernel
theorem dX4_holder_165 : decode cX4_holder 165 = .ok (.iload 9, 2) := by decide +kernel
theorem dX4_holder_167 : decode cX4_holder 167 = .ok (.iastore, 1) := by decide +kernel
theorem dX4_holder_168 : decode cX4_holder 168 = .ok (.goto 12, 3) := by decide +kernel
theorem dX4_holder_171 : decode cX4_holder 171 = .ok (.aload_n 0, 1) := by decide +kernel
theorem dX4_holder_172 : decode cX4_holder 172 = .ok (.getfield 21, 3) := by decide +kernel
theorem dX4_holder_175 : decode cX4_holder 175 = .ok (.iload 5, 2) := by decide +kernel
theorem dX4_holder_177 : decode cX4_holder 177 = .ok (.iload 9, 2) := by decide +kernel
theorem dX4_holder_179 : decode cX4_holder 179 = .ok (.iastore, 1) := by decide +kernel
theorem dX4_holder_180 : decode cX4_holder 180 = .ok (.iload 9, 2) := by decide +kernel
theorem dX4_holder_182 : decode cX4_holder 182 = .ok (.istore 5, 2) := by decide +kernel
theorem dX4_holder_184 : decode cX4_holder 184 = .ok (.aload_n 0, 1) := by decide +kernel
theorem dX4_holder_185 : decode cX4_holder 185 = .ok (.getfield 18, 3) := by decide +kernel
theorem dX4_holder_188 : decode cX4_holder 188 = .ok (.iload_n 3, 1) := by decide +kernel
theorem dX4_holder_189 : decode cX4_holder 189 = .ok (.dup2, 1) := by decide +kernel
theorem dX4_holder_190 : decode cX4_holder 190 = .ok (.iaload, 1) := by decide +kernel
theorem dX4_holder_191 : decode cX4_holder 191 = .ok (.iconst 1, 1) := by decide +kernel
theorem dX4_holder_192 : decode cX4_holder 192 = .ok (.iadd, 1) := by decide +kernel
theorem dX4_holder_193 : decode cX4_holder 193 = .ok (.iastore, 1) := by decide +kernel
theorem dX4_holder_194 : decode cX4_holder 194 = .ok (.aload_n 0, 1) := by decide +kernel
theorem dX4_holder_195 : decode cX4_holder 195 = .ok (.invokevirtual 56, 3) := by decide +kernel
theorem dX4_holder_198 : decode cX4_holder 198 = .ok (.aload_n 0, 1) := by decide +kernel
theorem dX4_holder_199 : decode cX4_holder 199 = .ok (.invokevirtual 89, 3) := by decide +kernel
theorem dX4_holder_202 : decode cX4_holder 202 = .ok (.istore 10, 2) := by decide +kernel
theorem dX4_holder_204 : decode cX4_holder 204 = .ok (.aload_n 0, 1) := by decide +kernel
theorem dX4_holder_205 : decode cX4_holder 205 = .ok (.dup, 1) := by decide +kernel
theorem dX4_holder_206 : decode cX4_holder 206 = .ok (.getfield 47, 3) := by decide +kernel
theorem dX4_holder_209 : decode cX4_holder 209 = .ok (.iconst 1, 1) := by decide +kernel
theorem dX4_holder_210 : decode cX4_holder 210 = .ok (.iadd, 1) := by decide +kernel
theorem dX4_holder_211 : decode cX4_holder 211 = .ok (.putfield 47, 3) := by decide +kernel
theorem dX4_holder_214 : decode cX4_holder 214 = .ok (.iload 10, 2) := by decide +kernel
theorem dX4_holder_216 : decode cX4_holder 216 = .ok (.bipush 44, 2) := by decide +kernel
theorem dX4_holder_218 : decode cX4_holder 218 = .ok (.if_icmp .eq 16, 3) := by decide +kernel
theorem dX4_holder_221 : decode cX4_holder 221 = .ok (.iload 10, 2) := by decide +kernel
theorem dX4_holder_223 : decode cX4_holder 223 = .ok (.iload 4, 2) := by decide +kernel
theorem dX4_holder_225 : decode cX4_holder 225 = .ok (.if_icmp .ne 7, 3) := by decide +kernel
theorem dX4_holder_228 : decode cX4_holder 228 = .ok (.iload_n 3, 1) := by decide +kernel
theorem dX4_holder_229 : decode cX4_holder 229 = .ok (.goto 4, 3) := by decide +kernel
theorem dX4_holder_232 : decode cX4_holder 232 = .ok (.iconst (-1), 1) := by decide +kernel
theorem dX4_holder_233 : decode cX4_holder 233 = .ok (.ireturn, 1) := by decide +kernel
theorem dX4_holder_234 : decode cX4_holder 234 = .ok (.aload_n 0, 1) := by decide +kernel
theorem dX4_holder_235 : decode cX4_holder 235 = .ok (.invokevirtual 56, 3) := by decide +kernel
theorem dX4_holder_238 : decode cX4_holder 238 = .ok (.iinc 6 1, 3) := by decide +kernel
theorem dX4_holder_241 : decode cX4_holder 241 = .ok (.goto (-171), 3) := by decide +kernel
theorem dX4_holder_244 : decode cX4_holder 244 = .ok (.iconst (-1), 1) := by decide +kernel
theorem dX4_holder_245 : decode cX4_holder 245 = .ok (.ireturn, 1) := by decide +kernel
end
section
theorem dX4_read_0 : decode cX4_read 0 = .ok (.aload_n 0, 1) := by decide +kernel
theorem dX4_read_1 : decode cX4_read 1 = .ok (.aload_n 1, 1) := by decide +kernel
theorem dX4_read_2 : decode cX4_read 2 = .ok (.putfield 33, 3) := by decide +kernel
theorem dX4_read_5 : decode cX4_read 5 = .ok (.aload_n 0, 1) := by decide +kernel
theorem dX4_read_6 : decode cX4_read 6 = .ok (.iload_n 2, 1) := by decide +kernel
theorem dX4_read_7 : decode cX4_read 7 = .ok (.aload_n 1, 1) := by decide +kernel
theorem dX4_read_8 : decode cX4_read 8 = .ok (.arraylength, 1) := by decide +kernel
theorem dX4_read_9 : decode cX4_read 9 = .ok (.invokestatic 37, 3) := by decide +kernel
theorem dX4_read_12 : decode cX4_read 12 = .ok (.putfield 43, 3) := by decide +kernel
theorem dX4_read_15 : decode cX4_read 15 = .ok (.aload_n 0, 1) := by decide +kernel
theorem dX4_read_16 : decode cX4_read 16 = .ok (.iconst 0, 1) := by decide +kernel
theorem dX4_read_17 : decode cX4_read 17 = .ok (.putfield 47, 3) := by decide +kernel
theorem dX4_read_20 : decode cX4_read 20 = .ok (.aload_n 0, 1) := by decide +kernel
theorem dX4_read_21 : decode cX4_read 21 = .ok (.iconst 0, 1) := by decide +kernel
theorem dX4_read_22 : decode cX4_read 22 = .ok (.putfield 50, 3) := by decide +kernel
theorem dX4_read_25 : decode cX4_read 25 = .ok (.aload_n 0, 1) := by decide +kernel
theorem dX4_read_26 : decode cX4_read 26 = .ok (.iconst 0, 1) := by decide +kernel
theorem dX4_read_27 : decode cX4_read 27 = .ok (.putfield 53, 3) := by decide +kernel
theorem dX4_read_30 : decode cX4_read 30 = .ok (.aload_n 0, 1) := by decide +kernel
theorem dX4_read_31 : decode cX4_read 31 = .ok (.invokevirtual 56, 3) := by decide +kernel
theorem dX4_read_34 : decode cX4_read 34 = .ok (.aload_n 0, 1) := by decide +kernel
theorem dX4_read_35 : decode cX4_read 35 = .ok (.iconst 0, 1) := by decide +kernel
theorem dX4_read_36 : decode cX4_read 36 = .ok (.invokevirtual 59, 3) := by decide +kernel
theorem dX4_read_39 : decode cX4_read 39 = .ok (.istore_n 3, 1) := by decide +kernel
theorem dX4_read_40 : decode cX4_read 40 = .ok (.aload_n 0, 1) := by decide +kernel
theorem dX4_read_41 : decode cX4_read 41 = .ok (.invokevirtual 56, 3) := by decide +kernel
theorem dX4_read_44 : decode cX4_read 44 = .ok (.iload_n 3, 1) := by decide +kernel
theorem dX4_read_45 : decode cX4_read 45 = .ok (.ifCond .ne 18, 3) := by decide +kernel
theorem dX4_read_48 : decode cX4_read 48 = .ok (.aload_n 0, 1) := by decide +kernel
theorem dX4_read_49 : decode cX4_read 49 = .ok (.getfield 47, 3) := by decide +kernel
theorem dX4_read_52 : decode cX4_read 52 = .ok (.aload_n 0, 1) := by decide +kernel
theorem dX4_read_53 : decode cX4_read 53 = .ok (.getfield 43, 3) := by decide +kernel
theorem dX4_read_56 : decode cX4_read 56 = .ok (.if_icmp .ne 7, 3) := by decide +kernel
theorem dX4_read_59 : decode cX4_read 59 = .ok (.iconst 1, 1) := by decide +kernel
theorem dX4_read_60 : decode cX4_read 60 = .ok (.goto 4, 3) := by decide +kernel
theorem dX4_read_63 : decode cX4_read 63 = .ok (.iconst 0, 1) := by decide +kernel
theorem dX4_read_64 : decode cX4_read 64 = .ok (.ireturn, 1) := by decide +kernel
end
section
theorem dX1_endedBy_0 : decode cX1_endedBy 0 = .ok (.iconst 0, 1) := by decide +kernel
theorem dX1_endedBy_1 : decode cX1_endedBy 1 = .ok (.istore_n 2, 1) := by decide +kernel
theorem dX1_endedBy_2 : decode cX1_endedBy 2 = .ok (.iload_n 2, 1) := by decide +kernel
theorem dX1_endedBy_3 : decode cX1_endedBy 3 = .ok (.aload_n 0, 1) := by decide +kernel
theorem dX1_endedBy_4 : decode cX1_endedBy 4 = .ok (.getfield 69, 3) := by decide +kernel
theorem dX1_endedBy_7 : decode cX1_endedBy 7 = .ok (.if_icmp .ge 19, 3) := by decide +kernel
theorem dX1_endedBy_10 : decode cX1_endedBy 10 = .ok (.aload_n 0, 1) := by decide +kernel
theorem dX1_endedBy_11 : decode cX1_endedBy 11 = .ok (.getfield 21, 3) := by decide +kernel
theorem dX1_endedBy_14 : decode cX1_endedBy 14 = .ok (.iload_n 2, 1) := by decide +kernel
theorem dX1_endedBy_15 : decode cX1_endedBy 15 = .ok (.iaload, 1) := by decide +kernel
theorem dX1_endedBy_16 : decode cX1_endedBy 16 = .ok (.iload_n 1, 1) := by decide +kernel
theorem dX1_endedBy_17 : decode cX1_endedBy 17 = .ok (.if_icmp .gt 9, 3) := by decide +kernel
theorem dX1_endedBy_20 : decode cX1_endedBy 20 = .ok (.iinc 2 1, 3) := by decide +kernel
theorem dX1_endedBy_23 : decode cX1_endedBy 23 = .ok (.goto (-21), 3) := by decide +kernel
theorem dX1_endedBy_26 : decode cX1_endedBy 26 = .ok (.iload_n 2, 1) := by decide +kernel
theorem dX1_endedBy_27 : decode cX1_endedBy 27 = .ok (.ireturn, 1) := by decide +kernel
end
section
theorem dX2_accept_0 : decode cX2_accept 0 = .ok (.aload_n 0, 1) := by decide +kernel
theorem dX2_accept_1 : decode cX2_accept 1 = .ok (.getfield 22, 3) := by decide +kernel
theorem dX2_accept_4 : decode cX2_accept 4 = .ok (.ifCond .eq 5, 3) := by decide +kernel
theorem dX2_accept_9 : decode cX2_accept 9 = .ok (.aload_n 0, 1) := by decide +kernel
theorem dX2_accept_10 : decode cX2_accept 10 = .ok (.getfield 15, 3) := by decide +kernel
theorem dX2_accept_13 : decode cX2_accept 13 = .ok (.bipush 6, 2) := by decide +kernel
theorem dX2_accept_15 : decode cX2_accept 15 = .ok (.if_icmp .ne 39, 3) := by decide +kernel
theorem dX2_accept_18 : decode cX2_accept 18 = .ok (.aload_n 0, 1) := by decide +kernel
theorem dX2_accept_19 : decode cX2_accept 19 = .ok (.getfield 26, 3) := by decide +kernel
theorem dX2_accept_22 : decode cX2_accept 22 = .ok (.aload_n 0, 1) := by decide +kernel
theorem dX2_accept_23 : decode cX2_accept 23 = .ok (.getfield 9, 3) := by decide +kernel
theorem dX2_accept_26 : decode cX2_accept 26 = .ok (.arraylength, 1) := by decide +kernel
theorem dX2_accept_27 : decode cX2_accept 27 = .ok (.if_icmp .ge 14, 3) := by decide +kernel
theorem dX2_accept_30 : decode cX2_accept 30 = .ok (.aload_n 0, 1) := by decide +kernel
theorem dX2_accept_31 : decode cX2_accept 31 = .ok (.getfield 9, 3) := by decide +kernel
theorem dX2_accept_34 : decode cX2_accept 34 = .ok (.aload_n 0, 1) := by decide +kernel
theorem dX2_accept_35 : decode cX2_accept 35 = .ok (.getfield 26, 3) := by decide +kernel
theorem dX2_accept_38 : decode cX2_accept 38 = .ok (.iload_n 1, 1) := by decide +kernel
theorem dX2_accept_39 : decode cX2_accept 39 = .ok (.i2b, 1) := by decide +kernel
theorem dX2_accept_40 : decode cX2_accept 40 = .ok (.bastore, 1) := by decide +kernel
theorem dX2_accept_41 : decode cX2_accept 41 = .ok (.aload_n 0, 1) := by decide +kernel
theorem dX2_accept_42 : decode cX2_accept 42 = .ok (.dup, 1) := by decide +kernel
theorem dX2_accept_43 : decode cX2_accept 43 = .ok (.getfield 26, 3) := by decide +kernel
theorem dX2_accept_46 : decode cX2_accept 46 = .ok (.iconst 1, 1) := by decide +kernel
theorem dX2_accept_47 : decode cX2_accept 47 = .ok (.iadd, 1) := by decide +kernel
theorem dX2_accept_48 : decode cX2_accept 48 = .ok (.putfield 26, 3) := by decide +kernel
theorem dX2_accept_51 : decode cX2_accept 51 = .ok (.goto 28, 3) := by decide +kernel
theorem dX2_accept_54 : decode cX2_accept 54 = .ok (.aload_n 0, 1) := by decide +kernel
theorem dX2_accept_55 : decode cX2_accept 55 = .ok (.getfield 29, 3) := by decide +kernel
theorem dX2_accept_58 : decode cX2_accept 58 = .ok (.sipush 200, 3) := by decide +kernel
theorem dX2_accept_61 : decode cX2_accept 61 = .ok (.if_icmp .ge 11, 3) := by decide +kernel
theorem dX2_accept_64 : decode cX2_accept 64 = .ok (.aload_n 0, 1) := by decide +kernel
theorem dX2_accept_65 : decode cX2_accept 65 = .ok (.iload_n 1, 1) := by decide +kernel
theorem dX2_accept_66 : decode cX2_accept 66 = .ok (.invokevirtual 32, 3) := by decide +kernel
theorem dX2_accept_69 : decode cX2_accept 69 = .ok (.ifCond .ne 10, 3) := by decide +kernel
theorem dX2_accept_72 : decode cX2_accept 72 = .ok (.aload_n 0, 1) := by decide +kernel
theorem dX2_accept_73 : decode cX2_accept 73 = .ok (.iconst 1, 1) := by decide +kernel
theorem dX2_accept_74 : decode cX2_accept 74 = .ok (.putfield 22, 3) := by decide +kernel
theorem dX2_accept_77 : decode cX2_accept 77 = .ok (.iconst 0, 1) := by decide +kernel
theorem dX2_accept_78 : decode cX2_accept 78 = .ok (.ireturn, 1) := by decide +kernel
theorem dX2_accept_79 : decode cX2_accept 79 = .ok (.aload_n 0, 1) := by decide +kernel
theorem dX2_accept_80 : decode cX2_accept 80 = .ok (.dup, 1) := by decide +kernel
theorem dX2_accept_81 : decode cX2_accept 81 = .ok (.getfield 29, 3) := by decide +kernel
theorem dX2_accept_84 : decode cX2_accept 84 = .ok (.iconst 1, 1) := by decide +kernel
theorem dX2_accept_85 : decode cX2_accept 85 = .ok (.iadd, 1) := by decide +kernel
theorem dX2_accept_86 : decode cX2_accept 86 = .ok (.putfield 29, 3) := by decide +kernel
theorem dX2_accept_89 : decode cX2_accept 89 = .ok (.aload_n 0, 1) := by decide +kernel
theorem dX2_accept_90 : decode cX2_accept 90 = .ok (.getfield 15, 3) := by decide +kernel
theorem dX2_accept_93 : decode cX2_accept 93 = .ok (.bipush 6, 2) := by decide +kernel
theorem dX2_accept_95 : decode cX2_accept 95 = .ok (.if_icmp .ne 14, 3) := by decide +kernel
theorem dX2_accept_98 : decode cX2_accept 98 = .ok (.aload_n 0, 1) := by decide +kernel
theorem dX2_accept_99 : decode cX2_accept 99 = .ok (.getfield 26, 3) := by decide +kernel
theorem dX2_accept_102 : decode cX2_accept 102 = .ok (.aload_n 0, 1) := by decide +kernel
theorem dX2_accept_103 : decode cX2_accept 103 = .ok (.getfield 19, 3) := by decide +kernel
theorem dX2_accept_106 : decode cX2_accept 106 = .ok (.if_icmp .ge 5, 3) := by decide +kernel
theorem dX2_accept_109 : decode cX2_accept 109 = .ok (.iconst 0, 1) := by decide +kernel
theorem dX2_accept_110 : decode cX2_accept 110 = .ok (.ireturn, 1) := by decide +kernel
theorem dX2_accept_111 : decode cX2_accept 111 = .ok (.aload_n 0, 1) := by decide +kernel
theorem dX2_accept_112 : decode cX2_accept 112 = .ok (.aload_n 0, 1) := by decide +kernel
theorem dX2_accept_113 : decode cX2_accept 113 = .ok (.getfield 19, 3) := by decide +kernel
theorem dX2_accept_116 : decode cX2_accept 116 = .ok (.putfield 36, 3) := by decide +kernel
theorem dX2_accept_119 : decode cX2_accept 119 = .ok (.aload_n 0, 1) := by decide +kernel
theorem dX2_accept_120 : decode cX2_accept 120 = .ok (.iconst (-1), 1) := by decide +kernel
theorem dX2_accept_121 : decode cX2_accept 121 = .ok (.putfield 19, 3) := by decide +kernel
theorem dX2_accept_124 : decode cX2_accept 124 = .ok (.aload_n 0, 1) := by decide +kernel
theorem dX2_accept_125 : decode cX2_accept 125 = .ok (.iconst 0, 1) := by decide +kernel
theorem dX2_accept_126 : decode cX2_accept 126 = .ok (.putfield 26, 3) := by decide +kernel
theorem dX2_accept_129 : decode cX2_accept 129 = .ok (.aload_n 0, 1) := by decide +kernel
theorem dX2_accept_130 : decode cX2_accept 130 = .ok (.iconst 0, 1) := by decide +kernel
theorem dX2_accept_131 : decode cX2_accept 131 = .ok (.putfield 29, 3) := by decide +kernel
theorem dX2_accept_134 : decode cX2_accept 134 = .ok (.aload_n 0, 1) := by decide +kernel
theorem dX2_accept_135 : decode cX2_accept 135 = .ok (.iconst 0, 1) := by decide +kernel
theorem dX2_accept_136 : decode cX2_accept 136 = .ok (.putfield 15, 3) := by decide +kernel
theorem dX2_accept_139 : decode cX2_accept 139 = .ok (.aload_n 0, 1) := by decide +kernel
theorem dX2_accept_140 : decode cX2_accept 140 = .ok (.dup, 1) := by decide +kernel
theorem dX2_accept_141 : decode cX2_accept 141 = .ok (.getfield 39, 3) := by decide +kernel
theorem dX2_accept_144 : decode cX2_accept 144 = .ok (.iconst 1, 1) := by decide +kernel
theorem dX2_accept_145 : decode cX2_accept 145 = .ok (.iadd, 1) := by decide +kernel
theorem dX2_accept_146 : decode cX2_accept 146 = .ok (.putfield 39, 3) := by decide +kernel
theorem dX2_accept_149 : decode cX2_accept 149 = .ok (.iconst 1, 1) := by decide +kernel
theorem dX2_accept_150 : decode cX2_accept 150 = .ok (.ireturn, 1) := by decide +kernel
theorem dX2_isHeader_0 : decode cX2_isHeader 0 = .ok (.aload_n 0, 1) := by decide +kernel
theorem dX2_isHeader_1 : decode cX2_isHeader 1 = .ok (.getfield 15, 3) := by decide +kernel
theorem dX2_isHeader_4 : decode cX2_isHeader 4 = .ok (.tableswitch 77 0 4 #[36, 42, 48, 54, 60], 36) := by decide +kernel
theorem dX2_isHeader_40 : decode cX2_isHeader 40 = .ok (.aload_n 0, 1) := by decide +kernel
theorem dX2_isHeader_41 : decode cX2_isHeader 41 = .ok (.iload_n 1, 1) := by decide +kernel
theorem dX2_isHeader_42 : decode cX2_isHeader 42 = .ok (.invokevirtual 42, 3) := by decide +kernel
theorem dX2_isHeader_45 : decode cX2_isHeader 45 = .ok (.ireturn, 1) := by decide +kernel
theorem dX2_isHeader_46 : decode cX2_isHeader 46 = .ok (.aload_n 0, 1) := by decide +kernel
theorem dX2_isHeader_47 : decode cX2_isHeader 47 = .ok (.iload_n 1, 1) := by decide +kernel
theorem dX2_isHeader_48 : decode cX2_isHeader 48 = .ok (.invokevirtual 45, 3) := by decide +kernel
theorem dX2_isHeader_51 : decode cX2_isHeader 51 = .ok (.ireturn, 1) := by decide +kernel
theorem dX2_isHeader_52 : decode cX2_isHeader 52 = .ok (.aload_n 0, 1) := by decide +kernel
theorem dX2_isHeader_53 : decode cX2_isHeader 53 = .ok (.iload_n 1, 1) := by decide +kernel
theorem dX2_isHeader_54 : decode cX2_isHeader 54 = .ok (.invokevirtual 48, 3) := by decide +kernel
theorem dX2_isHeader_57 : decode cX2_isHeader 57 = .ok (.ireturn, 1) := by decide +kernel
theorem dX2_isHeader_58 : decode cX2_isHeader 58 = .ok (.aload_n 0, 1) := by decide +kernel
theorem dX2_isHeader_59 : decode cX2_isHeader 59 = .ok (.iload_n 1, 1) := by decide +kernel
theorem dX2_isHeader_60 : decode cX2_isHeader 60 = .ok (.invokevirtual 51, 3) := by decide +kernel
theorem dX2_isHeader_63 : decode cX2_isHeader 63 = .ok (.ireturn, 1) := by decide +kernel
theorem dX2_isHeader_64 : decode cX2_isHeader 64 = .ok (.aload_n 0, 1) := by decide +kernel
theorem dX2_isHeader_65 : decode cX2_isHeader 65 = .ok (.iconst 0, 1) := by decide +kernel
theorem dX2_isHeader_66 : decode cX2_isHeader 66 = .ok (.putfield 15, 3) := by decide +kernel
theorem dX2_isHeader_69 : decode cX2_isHeader 69 = .ok (.iload_n 1, 1) := by decide +kernel
theorem dX2_isHeader_70 : decode cX2_isHeader 70 = .ok (.bipush 10, 2) := by decide +kernel
theorem dX2_isHeader_72 : decode cX2_isHeader 72 = .ok (.if_icmp .ne 7, 3) := by decide +kernel
theorem dX2_isHeader_75 : decode cX2_isHeader 75 = .ok (.iconst 1, 1) := by decide +kernel
theorem dX2_isHeader_76 : decode cX2_isHeader 76 = .ok (.goto 4, 3) := by decide +kernel
theorem dX2_isHeader_79 : decode cX2_isHeader 79 = .ok (.iconst 0, 1) := by decide +kernel
theorem dX2_isHeader_80 : decode cX2_isHeader 80 = .ok (.ireturn, 1) := by decide +kernel
theorem dX2_isHeader_81 : decode cX2_isHeader 81 = .ok (.aload_n 0, 1) := by decide +kernel
theorem dX2_isHeader_82 : decode cX2_isHeader 82 = .ok (.bipush 6, 2) := by decide +kernel
theorem dX2_isHeader_84 : decode cX2_isHeader 84 = .ok (.putfield 15, 3) := by decide +kernel
theorem dX2_isHeader_87 : decode cX2_isHeader 87 = .ok (.iload_n 1, 1) := by decide +kernel
theorem dX2_isHeader_88 : decode cX2_isHeader 88 = .ok (.bipush 10, 2) := by decide +kernel
theorem dX2_isHeader_90 : decode cX2_isHeader 90 = .ok (.if_icmp .ne 7, 3) := by decide +kernel
theorem dX2_isHeader_93 : decode cX2_isHeader 93 = .ok (.iconst 1, 1) := by decide +kernel
theorem dX2_isHeader_94 : decode cX2_isHeader 94 = .ok (.goto 4, 3) := by decide +kernel
theorem dX2_isHeader_97 : decode cX2_isHeader 97 = .ok (.iconst 0, 1) := by decide +kernel
theorem dX2_isHeader_98 : decode cX2_isHeader 98 = .ok (.ireturn, 1) := by decide +kernel
theorem dX2_isLineBegin_0 : decode cX2_isLineBegin 0 = .ok (.iload_n 1, 1) := by decide +kernel
theorem dX2_isLineBegin_1 : decode cX2_isLineBegin 1 = .ok (.bipush 13, 2) := by decide +kernel
theorem dX2_isLineBegin_3 : decode cX2_isLineBegin 3 = .ok (.if_icmp .ne 21, 3) := by decide +kernel
theorem dX2_isLineBegin_6 : decode cX2_isLineBegin 6 = .ok (.aload_n 0, 1) := by decide +kernel
theorem dX2_isLineBegin_7 : decode cX2_isLineBegin 7 = .ok (.iconst 5, 1) := by decide +kernel
theorem dX2_isLineBegin_8 : decode cX2_isLineBegin 8 = .ok (.putfield 15, 3) := by decide +kernel
theorem dX2_isLineBegin_11 : decode cX2_isLineBegin 11 = .ok (.aload_n 0, 1) := by decide +kernel
theorem dX2_isLineBegin_12 : decode cX2_isLineBegin 12 = .ok (.getfield 19, 3) := by decide +kernel
theorem dX2_isLineBegin_15 : decode cX2_isLineBegin 15 = .ok (.ifCond .lt 7, 3) := by decide +kernel
theorem dX2_isLineBegin_18 : decode cX2_isLineBegin 18 = .ok (.iconst 1, 1) := by decide +kernel
theorem dX2_isLineBegin_19 : decode cX2_isLineBegin 19 = .ok (.goto 4, 3) := by decide +kernel
theorem dX2_isLineBegin_22 : decode cX2_isLineBegin 22 = .ok (.iconst 0, 1) := by decide +kernel
theorem dX2_isLineBegin_23 : decode cX2_isLineBegin 23 = .ok (.ireturn, 1) := by decide +kernel
theorem dX2_isLineBegin_24 : decode cX2_isLineBegin 24 = .ok (.aload_n 0, 1) := by decide +kernel
theorem dX2_isLineBegin_25 : decode cX2_isLineBegin 25 = .ok (.iconst 1, 1) := by decide +kernel
theorem dX2_isLineBegin_26 : decode cX2_isLineBegin 26 = .ok (.putfield 15, 3) := by decide +kernel
theorem dX2_isLineBegin_29 : decode cX2_isLineBegin 29 = .ok (.aload_n 0, 1) := by decide +kernel
theorem dX2_isLineBegin_30 : decode cX2_isLineBegin 30 = .ok (.iconst 0, 1) := by decide +kernel
theorem dX2_isLineBegin_31 : decode cX2_isLineBegin 31 = .ok (.putfield 54, 3) := by decide +kernel
theorem dX2_isLineBegin_34 : decode cX2_isLineBegin 34 = .ok (.aload_n 0, 1) := by decide +kernel
theorem dX2_isLineBegin_35 : decode cX2_isLineBegin 35 = .ok (.iconst 1, 1) := by decide +kernel
theorem dX2_isLineBegin_36 : decode cX2_isLineBegin 36 = .ok (.putfield 57, 3) := by decide +kernel
theorem dX2_isLineBegin_39 : decode cX2_isLineBegin 39 = .ok (.iload_n 1, 1) := by decide +kernel
theorem dX2_isLineBegin_40 : decode cX2_isLineBegin 40 = .ok (.bipush 58, 2) := by decide +kernel
theorem dX2_isLineBegin_42 : decode cX2_isLineBegin 42 = .ok (.if_icmp .eq 15, 3) := by decide +kernel
theorem dX2_isLineBegin_45 : decode cX2_isLineBegin 45 = .ok (.aload_n 0, 1) := by decide +kernel
theorem dX2_isLineBegin_46 : decode cX2_isLineBegin 46 = .ok (.iload_n 1, 1) := by decide +kernel
theorem dX2_isLineBegin_47 : decode cX2_isLineBegin 47 = .ok (.invokevirtual 45, 3) := by decide +kernel
theorem dX2_isLineBegin_50 : decode cX2_isLineBegin 50 = .ok (.ifCond .eq 7, 3) := by decide +kernel
theorem dX2_isLineBegin_53 : decode cX2_isLineBegin 53 = .ok (.iconst 1, 1) := by decide +kernel
theorem dX2_isLineBegin_54 : decode cX2_isLineBegin 54 = .ok (.goto 4, 3) := by decide +kernel
theorem dX2_isLineBegin_57 : decode cX2_isLineBegin 57 = .ok (.iconst 0, 1) := by decide +kernel
theorem dX2_isLineBegin_58 : decode cX2_isLineBegin 58 = .ok (.ireturn, 1) := by decide +kernel
theorem dX2_isInName_0 : decode cX2_isInName 0 = .ok (.iload_n 1, 1) := by decide +kernel
theorem dX2_isInName_1 : decode cX2_isInName 1 = .ok (.bipush 58, 2) := by decide +kernel
theorem dX2_isInName_3 : decode cX2_isInName 3 = .ok (.if_icmp .ne 43, 3) := by decide +kernel
theorem dX2_isInName_6 : decode cX2_isInName 6 = .ok (.aload_n 0, 1) := by decide +kernel
theorem dX2_isInName_7 : decode cX2_isInName 7 = .ok (.aload_n 0, 1) := by decide +kernel
theorem dX2_isInName_8 : decode cX2_isInName 8 = .ok (.getfield 57, 3) := by decide +kernel
theorem dX2_isInName_11 : decode cX2_isInName 11 = .ok (.ifCond .eq 19, 3) := by decide +kernel
theorem dX2_isInName_14 : decode cX2_isInName 14 = .ok (.aload_n 0, 1) := by decide +kernel
theorem dX2_isInName_15 : decode cX2_isInName 15 = .ok (.getfield 54, 3) := by decide +kernel
theorem dX2_isInName_18 : decode cX2_isInName 18 = .ok (.ldc 60, 2) := by decide +kernel
theorem dX2_isInName_20 : decode cX2_isInName 20 = .ok (.invokevirtual 62, 3) := by decide +kernel
theorem dX2_isInName_23 : decode cX2_isInName 23 = .ok (.if_icmp .ne 7, 3) := by decide +kernel
theorem dX2_isInName_26 : decode cX2_isInName 26 = .ok (.iconst 3, 1) := by decide +kernel
theorem dX2_isInName_27 : decode cX2_isInName 27 = .ok (.goto 4, 3) := by decide +kernel
theorem dX2_isInName_30 : decode cX2_isInName 30 = .ok (.iconst 2, 1) := by decide +kernel
theorem dX2_isInName_31 : decode cX2_isInName 31 = .ok (.putfield 15, 3) := by decide +kernel
theorem dX2_isInName_34 : decode cX2_isInName 34 = .ok (.aload_n 0, 1) := by decide +kernel
theorem dX2_isInName_35 : decode cX2_isInName 35 = .ok (.iconst 0, 1) := by decide +kernel
theorem dX2_isInName_36 : decode cX2_isInName 36 = .ok (.putfield 67, 3) := by decide +kernel
theorem dX2_isInName_39 : decode cX2_isInName 39 = .ok (.aload_n 0, 1) := by decide +kernel
theorem dX2_isInName_40 : decode cX2_isInName 40 = .ok (.iconst 0, 1) := by decide +kernel
theorem dX2_isInName_41 : decode cX2_isInName 41 = .ok (.putfield 70, 3) := by decide +kernel
theorem dX2_isInName_44 : decode cX2_isInName 44 = .ok (.iconst 1, 1) := by decide +kernel
theorem dX2_isInName_45 : decode cX2_isInName 45 = .ok (.ireturn, 1) := by decide +kernel
theorem dX2_isInName_46 : decode cX2_isInName 46 = .ok (.iload_n 1, 1) := by decide +kernel
theorem dX2_isInName_47 : decode cX2_isInName 47 = .ok (.bipush 65, 2) := by decide +kernel
theorem dX2_isInName_49 : decode cX2_isInName 49 = .ok (.if_icmp .lt 16, 3) := by decide +kernel
theorem dX2_isInName_52 : decode cX2_isInName 52 = .ok (.iload_n 1, 1) := by decide +kernel
theorem dX2_isInName_53 : decode cX2_isInName 53 = .ok (.bipush 90, 2) := by decide +kernel
theorem dX2_isInName_55 : decode cX2_isInName 55 = .ok (.if_icmp .gt 10, 3) := by decide +kernel
theorem dX2_isInName_58 : decode cX2_isInName 58 = .ok (.iload_n 1, 1) := by decide +kernel
theorem dX2_isInName_59 : decode cX2_isInName 59 = .ok (.bipush 32, 2) := by decide +kernel
theorem dX2_isInName_61 : decode cX2_isInName 61 = .ok (.iadd, 1) := by decide +kernel
theorem dX2_isInName_62 : decode cX2_isInName 62 = .ok (.goto 4, 3) := by decide +kernel
theorem dX2_isInName_65 : decode cX2_isInName 65 = .ok (.iload_n 1, 1) := by decide +kernel
theorem dX2_isInName_66 : decode cX2_isInName 66 = .ok (.istore_n 2, 1) := by decide +kernel
theorem dX2_isInName_67 : decode cX2_isInName 67 = .ok (.aload_n 0, 1) := by decide +kernel
theorem dX2_isInName_68 : decode cX2_isInName 68 = .ok (.aload_n 0, 1) := by decide +kernel
theorem dX2_isInName_69 : decode cX2_isInName 69 = .ok (.getfield 57, 3) := by decide +kernel
theorem dX2_isInName_72 : decode cX2_isInName 72 = .ok (.ifCond .eq 32, 3) := by decide +kernel
theorem dX2_isInName_75 : decode cX2_isInName 75 = .ok (.aload_n 0, 1) := by decide +kernel
theorem dX2_isInName_76 : decode cX2_isInName 76 = .ok (.getfield 54, 3) := by decide +kernel
theorem dX2_isInName_79 : decode cX2_isInName 79 = .ok (.ldc 60, 2) := by decide +kernel
theorem dX2_isInName_81 : decode cX2_isInName 81 = .ok (.invokevirtual 62, 3) := by decide +kernel
theorem dX2_isInName_84 : decode cX2_isInName 84 = .ok (.if_icmp .ge 20, 3) := by decide +kernel
theorem dX2_isInName_87 : decode cX2_isInName 87 = .ok (.ldc 60, 2) := by decide +kernel
theorem dX2_isInName_89 : decode cX2_isInName 89 = .ok (.aload_n 0, 1) := by decide +kernel
theorem dX2_isInName_90 : decode cX2_isInName 90 = .ok (.getfield 54, 3) := by decide +kernel
theorem dX2_isInName_93 : decode cX2_isInName 93 = .ok (.invokevirtual 73, 3) := by decide +kernel
theorem dX2_isInName_96 : decode cX2_isInName 96 = .ok (.iload_n 2, 1) := by decide +kernel
theorem dX2_isInName_97 : decode cX2_isInName 97 = .ok (.if_icmp .ne 7, 3) := by decide +kernel
theorem dX2_isInName_100 : decode cX2_isInName 100 = .ok (.iconst 1, 1) := by decide +kernel
theorem dX2_isInName_101 : decode cX2_isInName 101 = .ok (.goto 4, 3) := by decide +kernel
theorem dX2_isInName_104 : decode cX2_isInName 104 = .ok (.iconst 0, 1) := by decide +kernel
theorem dX2_isInName_105 : decode cX2_isInName 105 = .ok (.putfield 57, 3) := by decide +kernel
theorem dX2_isInName_108 : decode cX2_isInName 108 = .ok (.aload_n 0, 1) := by decide +kernel
theorem dX2_isInName_109 : decode cX2_isInName 109 = .ok (.dup, 1) := by decide +kernel
theorem dX2_isInName_110 : decode cX2_isInName 110 = .ok (.getfield 54, 3) := by decide +kernel
theorem dX2_isInName_113 : decode cX2_isInName 113 = .ok (.iconst 1, 1) := by decide +kernel
theorem dX2_isInName_114 : decode cX2_isInName 114 = .ok (.iadd, 1) := by decide +kernel
theorem dX2_isInName_115 : decode cX2_isInName 115 = .ok (.putfield 54, 3) := by decide +kernel
theorem dX2_isInName_118 : decode cX2_isInName 118 = .ok (.iload_n 2, 1) := by decide +kernel
theorem dX2_isInName_119 : decode cX2_isInName 119 = .ok (.bipush 45, 2) := by decide +kernel
theorem dX2_isInName_121 : decode cX2_isInName 121 = .ok (.if_icmp .eq 15, 3) := by decide +kernel
theorem dX2_isInName_124 : decode cX2_isInName 124 = .ok (.iload_n 2, 1) := by decide +kernel
theorem dX2_isInName_125 : decode cX2_isInName 125 = .ok (.bipush 97, 2) := by decide +kernel
theorem dX2_isInName_127 : decode cX2_isInName 127 = .ok (.if_icmp .lt 13, 3) := by decide +kernel
theorem dX2_isInName_130 : decode cX2_isInName 130 = .ok (.iload_n 2, 1) := by decide +kernel
theorem dX2_isInName_131 : decode cX2_isInName 131 = .ok (.bipush 122, 2) := by decide +kernel
theorem dX2_isInName_133 : decode cX2_isInName 133 = .ok (.if_icmp .gt 7, 3) := by decide +kernel
theorem dX2_isInName_136 : decode cX2_isInName 136 = .ok (.iconst 1, 1) := by decide +kernel
theorem dX2_isInName_137 : decode cX2_isInName 137 = .ok (.goto 4, 3) := by decide +kernel
theorem dX2_isInName_140 : decode cX2_isInName 140 = .ok (.iconst 0, 1) := by decide +kernel
theorem dX2_isInName_141 : decode cX2_isInName 141 = .ok (.ireturn, 1) := by decide +kernel
theorem dX2_isInValue_0 : decode cX2_isInValue 0 = .ok (.iload_n 1, 1) := by decide +kernel
theorem dX2_isInValue_1 : decode cX2_isInValue 1 = .ok (.bipush 13, 2) := by decide +kernel
theorem dX2_isInValue_3 : decode cX2_isInValue 3 = .ok (.if_icmp .ne 10, 3) := by decide +kernel
theorem dX2_isInValue_6 : decode cX2_isInValue 6 = .ok (.aload_n 0, 1) := by decide +kernel
theorem dX2_isInValue_7 : decode cX2_isInValue 7 = .ok (.iconst 4, 1) := by decide +kernel
theorem dX2_isInValue_8 : decode cX2_isInValue 8 = .ok (.putfield 15, 3) := by decide +kernel
theorem dX2_isInValue_11 : decode cX2_isInValue 11 = .ok (.iconst 1, 1) := by decide +kernel
theorem dX2_isInValue_12 : decode cX2_isInValue 12 = .ok (.ireturn, 1) := by decide +kernel
theorem dX2_isInValue_13 : decode cX2_isInValue 13 = .ok (.iload_n 1, 1) := by decide +kernel
theorem dX2_isInValue_14 : decode cX2_isInValue 14 = .ok (.bipush 32, 2) := by decide +kernel
theorem dX2_isInValue_16 : decode cX2_isInValue 16 = .ok (.if_icmp .lt 13, 3) := by decide +kernel
theorem dX2_isInValue_19 : decode cX2_isInValue 19 = .ok (.iload_n 1, 1) := by decide +kernel
theorem dX2_isInValue_20 : decode cX2_isInValue 20 = .ok (.bipush 126, 2) := by decide +kernel
theorem dX2_isInValue_22 : decode cX2_isInValue 22 = .ok (.if_icmp .gt 7, 3) := by decide +kernel
theorem dX2_isInValue_25 : decode cX2_isInValue 25 = .ok (.iconst 1, 1) := by decide +kernel
theorem dX2_isInValue_26 : decode cX2_isInValue 26 = .ok (.goto 4, 3) := by decide +kernel
theorem dX2_isInValue_29 : decode cX2_isInValue 29 = .ok (.iconst 0, 1) := by decide +kernel
theorem dX2_isInValue_30 : decode cX2_isInValue 30 = .ok (.ireturn, 1) := by decide +kernel
theorem dX2_isInLength_0 : decode cX2_isInLength 0 = .ok (.iload_n 1, 1) := by decide +kernel
theorem dX2_isInLength_1 : decode cX2_isInLength 1 = .ok (.bipush 13, 2) := by decide +kernel
theorem dX2_isInLength_3 : decode cX2_isInLength 3 = .ok (.if_icmp .ne 29, 3) := by decide +kernel
theorem dX2_isInLength_6 : decode cX2_isInLength 6 = .ok (.aload_n 0, 1) := by decide +kernel
theorem dX2_isInLength_7 : decode cX2_isInLength 7 = .ok (.iconst 4, 1) := by decide +kernel
theorem dX2_isInLength_8 : decode cX2_isInLength 8 = .ok (.putfield 15, 3) := by decide +kernel
theorem dX2_isInLength_11 : decode cX2_isInLength 11 = .ok (.aload_n 0, 1) := by decide +kernel
theorem dX2_isInLength_12 : decode cX2_isInLength 12 = .ok (.aload_n 0, 1) := by decide +kernel
theorem dX2_isInLength_13 : decode cX2_isInLength 13 = .ok (.getfield 70, 3) := by decide +kernel
theorem dX2_isInLength_16 : decode cX2_isInLength 16 = .ok (.putfield 19, 3) := by decide +kernel
theorem dX2_isInLength_19 : decode cX2_isInLength 19 = .ok (.aload_n 0, 1) := by decide +kernel
theorem dX2_isInLength_20 : decode cX2_isInLength 20 = .ok (.getfield 67, 3) := by decide +kernel
theorem dX2_isInLength_23 : decode cX2_isInLength 23 = .ok (.ifCond .le 7, 3) := by decide +kernel
theorem dX2_isInLength_26 : decode cX2_isInLength 26 = .ok (.iconst 1, 1) := by decide +kernel
theorem dX2_isInLength_27 : decode cX2_isInLength 27 = .ok (.goto 4, 3) := by decide +kernel
theorem dX2_isInLength_30 : decode cX2_isInLength 30 = .ok (.iconst 0, 1) := by decide +kernel
theorem dX2_isInLength_31 : decode cX2_isInLength 31 = .ok (.ireturn, 1) := by decide +kernel
theorem dX2_isInLength_32 : decode cX2_isInLength 32 = .ok (.iload_n 1, 1) := by decide +kernel
theorem dX2_isInLength_33 : decode cX2_isInLength 33 = .ok (.bipush 48, 2) := by decide +kernel
theorem dX2_isInLength_35 : decode cX2_isInLength 35 = .ok (.if_icmp .lt 9, 3) := by decide +kernel
theorem dX2_isInLength_38 : decode cX2_isInLength 38 = .ok (.iload_n 1, 1) := by decide +kernel
theorem dX2_isInLength_39 : decode cX2_isInLength 39 = .ok (.bipush 57, 2) := by decide +kernel
theorem dX2_isInLength_41 : decode cX2_isInLength 41 = .ok (.if_icmp .le 22, 3) := by decide +kernel
theorem dX2_isInLength_44 : decode cX2_isInLength 44 = .ok (.iload_n 1, 1) := by decide +kernel
theorem dX2_isInLength_45 : decode cX2_isInLength 45 = .ok (.bipush 32, 2) := by decide +kernel
theorem dX2_isInLength_47 : decode cX2_isInLength 47 = .ok (.if_icmp .ne 14, 3) := by decide +kernel
theorem dX2_isInLength_50 : decode cX2_isInLength 50 = .ok (.aload_n 0, 1) := by decide +kernel
theorem dX2_isInLength_51 : decode cX2_isInLength 51 = .ok (.getfield 67, 3) := by decide +kernel
theorem dX2_isInLength_54 : decode cX2_isInLength 54 = .ok (.ifCond .ne 7, 3) := by decide +kernel
theorem dX2_isInLength_57 : decode cX2_isInLength 57 = .ok (.iconst 1, 1) := by decide +kernel
theorem dX2_isInLength_58 : decode cX2_isInLength 58 = .ok (.goto 4, 3) := by decide +kernel
theorem dX2_isInLength_61 : decode cX2_isInLength 61 = .ok (.iconst 0, 1) := by decide +kernel
theorem dX2_isInLength_62 : decode cX2_isInLength 62 = .ok (.ireturn, 1) := by decide +kernel
theorem dX2_isInLength_63 : decode cX2_isInLength 63 = .ok (.aload_n 0, 1) := by decide +kernel
theorem dX2_isInLength_64 : decode cX2_isInLength 64 = .ok (.dup, 1) := by decide +kernel
theorem dX2_isInLength_65 : decode cX2_isInLength 65 = .ok (.getfield 67, 3) := by decide +kernel
theorem dX2_isInLength_68 : decode cX2_isInLength 68 = .ok (.iconst 1, 1) := by decide +kernel
theorem dX2_isInLength_69 : decode cX2_isInLength 69 = .ok (.iadd, 1) := by decide +kernel
theorem dX2_isInLength_70 : decode cX2_isInLength 70 = .ok (.putfield 67, 3) := by decide +kernel
theorem dX2_isInLength_73 : decode cX2_isInLength 73 = .ok (.aload_n 0, 1) := by decide +kernel
theorem dX2_isInLength_74 : decode cX2_isInLength 74 = .ok (.aload_n 0, 1) := by decide +kernel
theorem dX2_isInLength_75 : decode cX2_isInLength 75 = .ok (.getfield 70, 3) := by decide +kernel
theorem dX2_isInLength_78 : decode cX2_isInLength 78 = .ok (.bipush 10, 2) := by decide +kernel
theorem dX2_isInLength_80 : decode cX2_isInLength 80 = .ok (.imul, 1) := by decide +kernel
theorem dX2_isInLength_81 : decode cX2_isInLength 81 = .ok (.iload_n 1, 1) := by decide +kernel
theorem dX2_isInLength_82 : decode cX2_isInLength 82 = .ok (.iadd, 1) := by decide +kernel
theorem dX2_isInLength_83 : decode cX2_isInLength 83 = .ok (.bipush 48, 2) := by decide +kernel
theorem dX2_isInLength_85 : decode cX2_isInLength 85 = .ok (.isub, 1) := by decide +kernel
theorem dX2_isInLength_86 : decode cX2_isInLength 86 = .ok (.putfield 70, 3) := by decide +kernel
theorem dX2_isInLength_89 : decode cX2_isInLength 89 = .ok (.aload_n 0, 1) := by decide +kernel
theorem dX2_isInLength_90 : decode cX2_isInLength 90 = .ok (.getfield 67, 3) := by decide +kernel
theorem dX2_isInLength_93 : decode cX2_isInLength 93 = .ok (.iconst 4, 1) := by decide +kernel
theorem dX2_isInLength_94 : decode cX2_isInLength 94 = .ok (.if_icmp .gt 17, 3) := by decide +kernel
theorem dX2_isInLength_97 : decode cX2_isInLength 97 = .ok (.aload_n 0, 1) := by decide +kernel
theorem dX2_isInLength_98 : decode cX2_isInLength 98 = .ok (.getfield 70, 3) := by decide +kernel
theorem dX2_isInLength_101 : decode cX2_isInLength 101 = .ok (.sipush 3000, 3) := by decide +kernel
theorem dX2_isInLength_104 : decode cX2_isInLength 104 = .ok (.if_icmp .gt 7, 3) := by decide +kernel
theorem dX2_isInLength_107 : decode cX2_isInLength 107 = .ok (.iconst 1, 1) := by decide +kernel
theorem dX2_isInLength_108 : decode cX2_isInLength 108 = .ok (.goto 4, 3) := by decide +kernel
theorem dX2_isInLength_111 : decode cX2_isInLength 111 = .ok (.iconst 0, 1) := by decide +kernel
theorem dX2_isInLength_112 : decode cX2_isInLength 112 = .ok (.ireturn, 1) := by decide +kernel
end
section
-- what a method writes of some objects only
theorem jn2 {a b c : Nat} (h : a ≠ b) (h1 : a ≠ c) : a ∉ [b, c] := fun q => by
  rcases List.mem_cons.mp q with e | e
  · exact h e
  · exact h1 (List.mem_singleton.mp e)
end
section
def EX6_numberOfBu9 : List (Nat × Nat) := [(8, 3), (102, 0), (132, 0), (133, 0)]
set_option maxHeartbeats 4000000 in
set_option maxRecDepth 20000 in
theorem uX6_numberOfBu9 (l : Launch) (dC : Nat → ClassId) (dI : Nat → Nat → Nat) (ca : Nat → ClassId) (base : Nat) (B : jF) (hB : jBok B) (hAp : jAp (dC, dI)) (hB8 : ∀ n G a H, B 8 n G a H ↔ jOb (dC, dI) 8 4 (F8 n G) a H) (hB102 : ∀ n G a H, B 102 n G a H ↔ jAl (dC, dI) (ca 2) n a H) (hB132 : ∀ n G a H, B 132 n G a H ↔ jAr (dC, dI) (ca 1) (fun j z => 0 ≤ z.toInt ∧ z.toInt ≤ 10) n a H) (hB133 : ∀ n G a H, B 133 n G a H ↔ jAr (dC, dI) (ca 1) (fun j z => 0 ≤ z.toInt ∧ z.toInt ≤ 8192) n a H) (hB174 : ∀ n G a H, B 174 n G a H ↔ jAr (dC, dI) (ca 1) (fun j z => True) n a H) (G0 : jT) (H0 : Heap) (r0 : Nat) (r1 : Nat) (a2 : Int32) (a3 : Int32) (a4 : Int32) (n1 : Nat) (xs : Nat) (xp : Nat) (xl : Nat) : Met l yX6_numberOf (jw yX6_numberOf cX6_numberOf 10 (some .int)) ({ frames := 1, cells := 0, slots := 0, locals := 28 }) (va_Pc [.ref r0, .ref r1, .int a2, .int a3, .int a4] (fun U => U.heap = H0 ∧ jX B base G0 [] H0 ∧ jG dC dI ca base U ∧ G0 r0 = some (8, 0) ∧ G0 r1 = some (174, n1) ∧ G0 xs = some (102, 8192) ∧ G0 xp = some (132, 8192) ∧ G0 xl = some (133, 16384) ∧ jP (dC, dI) G0 H0 [(r0, 8, 0, .ref xs), (r0, 8, 1, .ref xp), (r0, 8, 2, .ref xl)] ∧ n1 < 2147483648)) (va_Qi (S := Unit) (fun r u => (-1 ≤ r.toInt ∧ r.toInt ≤ 8191)) (fun u t => (jRt (dC, dI) B base G0 EX6_numberOfBu9 H0 [] t.heap) ∧ jKl [r0, xs, xp, xl] H0 t.heap) (jA base)) 0 0 (jA base) := by
  refine Met.ofW (cc := cX6_numberOf) (maxL := 10) (ret := (some .int)) (by decide) rfl ?_
  intro p e s m args below meth c s₁ Bd hml hv
  obtain ⟨rfl, hH0, hX, hG, hg_r0, hg_r1, hg_xs, hg_xp, hg_xl, hP0, hp0⟩ := hv
  have hK := hG.1
  have hx := Bd.exec
  have hb := Bd.bytes
  have hr := Bd.returns
  have hts := atoms_spec (ws := (jw yX6_numberOf cX6_numberOf 10 (some .int))) Bd.pre
  have htw : ∀ w ∈ jWl, w.before _ s = true := fun w h => hts w (List.mem_cons_of_mem _ h)
  have hown : s.vm.findClass RX6 = some m.cls := findClass_of_methodNamed Bd.named
  have hlocks := Bd.notSynchronized
  obtain ⟨Q, hQ⟩ : ∃ Q, Q = MQ below (va_Qi (S := Unit) (fun r u => (-1 ≤ r.toInt ∧ r.toInt ≤ 8191)) (fun u t => (jRt (dC, dI) B base G0 EX6_numberOfBu9 H0 [] t.heap) ∧ jKl [r0, xs, xp, xl] H0 t.heap) (jA base)) ([.ref r0, .ref r1, .int a2, .int a3, .int a4] : List Value).toArray s 0 0 (jA base) := ⟨_, rfl⟩
  rw [← hQ]
  have hl := lv_entry ([.ref r0, .ref r1, .int a2, .int a3, .int a4]) (n := 10) (Nat.le_of_ble_eq_true rfl)
  rw [lg_entry_eq]
  generalize (lg_sl ([.ref r0, .ref r1, .int a2, .int a3, .int a4]) ++ List.replicate (10 - (lg_sl ([.ref r0, .ref r1, .int a2, .int a3, .int a4])).length) Slot.unset).toArray = ls at hl ⊢
  have hl : lv_has ls 10 [(0, .ref r0), (1, .ref r1), (2, .int a2), (3, .int a3), (4, .int a4)] := hl
  generalize hR : (headSpec (jw yX6_numberOf cX6_numberOf 10 (some .int)) ({ frames := 1, cells := 0, slots := 0, locals := 28 })).room = R
  subst hH0
  have hh : jSt (dC, dI) B base G0 G0 EX6_numberOfBu9 s.heap 0 0 [(r0, 8, 0, .ref xs), (r0, 8, 1, .ref xp), (r0, 8, 2, .ref xl)] [] [] s.heap [] := jSt.start hX hP0 jMc.nil jIs.nil
  clear hX hP0
  have hkm1 : ((-1) : Int32).toInt = (-1) := by decide
  have hk0 : (0 : Int32).toInt = 0 := by decide
  have hk1 : (1 : Int32).toInt = 1 := by decide
  have hk6 : (6 : Int32).toInt = 6 := by decide
  have hk10 : (10 : Int32).toInt = 10 := by decide
  have hk39 : (39 : Int32).toInt = 39 := by decide
  have hrg_a2 := jb_rng a2
  have hrg_a3 := jb_rng a3
  have hrg_a4 := jb_rng a4
  have hfl : jKl [r0, xs, xp, xl] s.heap s.heap := jKl.rf
  refine lv_iload_n hx hb dX6_numberOf_0 rfl (lv_at hl 2 rfl) ?_
  refine lv_if_lt (tgt := 32) hx hb dX6_numberOf_1 (by decide) (fun c_1 => ?_) (fun c_1 => ?_)
  · skip
    have c_1' : a2.toInt < 0 := jb_lt (rfl) ((by decide)) c_1
    refine lv_iconst (v := (-1)) hx hb dX6_numberOf_32 (by decide) ?_
    rw [hQ]
    exact W.iret (v := (-1)) hx hb hr (fun t ht hW => ⟨⟨(-1), (), rfl, by first | omega | (refine ⟨?_, ?_⟩ <;> (first | omega | rfl | assumption | decide | exact Or.inl rfl | exact Or.inr rfl | (simp only; omega))), ⟨hh.rt (M1 := []) [] rfl ht, by rw [ht]; exact hfl⟩⟩, by rw [ht]; try exact hh.1.1, fun q h9 hq => by rw [ht]; try exact hh.1.2.1 q h9 hq⟩) hh.1.2.2 dX6_numberOf_33
  · skip
    have c_1' : a2.toInt ≥ 0 := jb_lt_n (rfl) ((by decide)) c_1
    refine lv_iload_n hx hb dX6_numberOf_4 rfl (lv_at hl 3 rfl) ?_
    refine lv_aload_n hx hb dX6_numberOf_5 rfl (lv_at hl 1 rfl) ?_
    refine j7_len hx hb hK hh hB174 1 rfl (by decide) hg_r1 (by omega) dX6_numberOf_6 (fun z_2 hz_2 => ?_)
    refine lv_icmp_gt (tgt := 32) hx hb dX6_numberOf_7 (by decide) (fun c_3 => ?_) (fun c_3 => ?_)
    · skip
      have c_3' : a3.toInt > z_2.toInt := jb_gt (rfl) (rfl) c_3
      refine lv_iconst (v := (-1)) hx hb dX6_numberOf_32 (by decide) ?_
      rw [hQ]
      exact W.iret (v := (-1)) hx hb hr (fun t ht hW => ⟨⟨(-1), (), rfl, by first | omega | (refine ⟨?_, ?_⟩ <;> (first | omega | rfl | assumption | decide | exact Or.inl rfl | exact Or.inr rfl | (simp only; omega))), ⟨hh.rt (M1 := []) [] rfl ht, by rw [ht]; exact hfl⟩⟩, by rw [ht]; try exact hh.1.1, fun q h9 hq => by rw [ht]; try exact hh.1.2.1 q h9 hq⟩) hh.1.2.2 dX6_numberOf_33
    · skip
      have c_3' : a3.toInt ≤ z_2.toInt := jb_gt_n (rfl) (rfl) c_3
      refine lv_iload_n hx hb dX6_numberOf_10 rfl (lv_at hl 2 rfl) ?_
      refine lv_iload_n hx hb dX6_numberOf_11 rfl (lv_at hl 3 rfl) ?_
      refine lv_icmp_ge (tgt := 32) hx hb dX6_numberOf_12 (by decide) (fun c_4 => ?_) (fun c_4 => ?_)
      · skip
        have c_4' : a2.toInt ≥ a3.toInt := jb_ge (rfl) (rfl) c_4
        refine lv_iconst (v := (-1)) hx hb dX6_numberOf_32 (by decide) ?_
        rw [hQ]
        exact W.iret (v := (-1)) hx hb hr (fun t ht hW => ⟨⟨(-1), (), rfl, by first | omega | (refine ⟨?_, ?_⟩ <;> (first | omega | rfl | assumption | decide | exact Or.inl rfl | exact Or.inr rfl | (simp only; omega))), ⟨hh.rt (M1 := []) [] rfl ht, by rw [ht]; exact hfl⟩⟩, by rw [ht]; try exact hh.1.1, fun q h9 hq => by rw [ht]; try exact hh.1.2.1 q h9 hq⟩) hh.1.2.2 dX6_numberOf_33
      · skip
        have c_4' : a2.toInt < a3.toInt := jb_ge_n (rfl) (rfl) c_4
        refine lv_iload_n hx hb dX6_numberOf_15 rfl (lv_at hl 3 rfl) ?_
        refine lv_iload_n hx hb dX6_numberOf_16 rfl (lv_at hl 2 rfl) ?_
        refine lv_isub hx hb dX6_numberOf_17 ?_
        refine lv_topi (fun z_5 ez_5 => ?_)
        have hz_5 : z_5.toInt = a3.toInt - a2.toInt := by rw [ez_5]; exact jb_isub2 (rfl) (rfl) (by omega)
        refine lv_bipush (v := 10) hx hb dX6_numberOf_18 (by decide) ?_
        refine lv_icmp_gt (tgt := 32) hx hb dX6_numberOf_20 (by decide) (fun c_6 => ?_) (fun c_6 => ?_)
        · skip
          have c_6' : z_5.toInt > 10 := jb_gt (rfl) ((by decide)) c_6
          refine lv_iconst (v := (-1)) hx hb dX6_numberOf_32 (by decide) ?_
          rw [hQ]
          exact W.iret (v := (-1)) hx hb hr (fun t ht hW => ⟨⟨(-1), (), rfl, by first | omega | (refine ⟨?_, ?_⟩ <;> (first | omega | rfl | assumption | decide | exact Or.inl rfl | exact Or.inr rfl | (simp only; omega))), ⟨hh.rt (M1 := []) [] rfl ht, by rw [ht]; exact hfl⟩⟩, by rw [ht]; try exact hh.1.1, fun q h9 hq => by rw [ht]; try exact hh.1.2.1 q h9 hq⟩) hh.1.2.2 dX6_numberOf_33
        · skip
          have c_6' : z_5.toInt ≤ 10 := jb_gt_n (rfl) ((by decide)) c_6
          refine lv_aload_n hx hb dX6_numberOf_23 rfl (lv_at hl 1 rfl) ?_
          refine lv_iload_n hx hb dX6_numberOf_24 rfl (lv_at hl 2 rfl) ?_
          refine j7_iald hx hb hK hh hB174 1 rfl (by decide) hg_r1 (x := a2.toInt) (rfl) (by omega) dX6_numberOf_25 (fun z_7 (hz_7 : True) => ?_)
          refine vp_callSi (va_Run.run (va_runSN (As := [.int z_7]) (rest := []) ⟨hx, hb, hml, hown, hts⟩ (wX11_isLetter l dC dI ca base s.heap z_7) ⟨va_cnB 1 hts (jgW (jWr_7 _ (List.mem_of_getElem? (i := 18) rfl))) rfl rfl rfl (hG.2.2.1 RX6 38 yX11_isLetter "ProofServer" (List.mem_of_getElem? (i := 217) (by decide +kernel))) (htw (.initialized RX11) (jWr_1 _ (List.mem_of_getElem? (i := 2) rfl))) (by decide +kernel) ⟨by rw [← hR]; exact Nat.le_of_ble_eq_true rfl, by rw [← hR]; exact Nat.le_of_ble_eq_true rfl⟩, htw (.static yX11_isLetter) (jWr_7 _ (List.mem_of_getElem? (i := 17) rfl)), trivial⟩ ⟨fun a U g mk q => by obtain ⟨q0, q1, qK, q9⟩ := q; exact ⟨q0, q1, jG.calling g mk a qK, q9⟩, fun U hU hW => ⟨rfl, hU, hG.step hW hU hh.1, by first | trivial | omega | (constructor <;> omega)⟩⟩ rfl rfl hl.1 rfl (lv_room (Nat.le_of_ble_eq_true rfl)) dX6_numberOf_26 ⟨Nat.zero_le _, Nat.zero_le _⟩)) (fun r_8 hr_8 => ?_)
          have hr_8' : r_8.toInt = 0 ∨ r_8.toInt = 1 := jb_01 hr_8
          refine lv_if_ne (tgt := 34) hx hb dX6_numberOf_29 (by decide) (fun c_9 => ?_) (fun c_9 => ?_)
          · skip
            have c_9' : r_8.toInt ≠ 0 := jb_ne (rfl) ((by decide)) c_9
            refine lv_iload_n hx hb dX6_numberOf_34 rfl (lv_at hl 3 rfl) ?_
            refine lv_istore (lv' := [(5, .int a3), (0, .ref r0), (1, .ref r1), (2, .int a2), (3, .int a3), (4, .int a4)]) hx hb dX6_numberOf_35 hl (by decide) rfl (fun ls hl => ?_)
            have L37 : ∀ (N : Nat) (v5_10 : Int32) (H_10 : Heap) (locs_10 : List Loc), jSt (dC, dI) B base G0 G0 EX6_numberOfBu9 s.heap 0 0 [(r0, 8, 0, .ref xs), (r0, 8, 1, .ref xp), (r0, 8, 2, .ref xl)] [] [] H_10 locs_10 → jKl [r0, xs, xp, xl] s.heap H_10 → (a2.toInt ≤ v5_10.toInt ∧ v5_10.toInt ≤ a3.toInt) → (v5_10.toInt - a2.toInt : Int) < N → ∀ ls : Array Slot, lv_has ls 10 [(0, .ref r0), (1, .ref r1), (2, .int a2), (3, .int a3), (4, .int a4), (5, .int v5_10)] → W p l e R s m ([.ref r0, .ref r1, .int a2, .int a3, .int a4] : List Value).toArray below meth c H_10 locs_10 0 0 Q (F0 m 37 ls []) := by
              intro N
              induction N with
              | zero => intro v5_10 H_10 locs_10 hh_10 hfl_10 hi_10 hm; exact absurd hm (by omega)
              | succ N L37 =>
                intro v5_10 H_10 locs_10 hh_10 hfl_10 hi_10 hm_10 ls hl
                obtain ⟨hi_10_0, hi_10_1⟩ := hi_10
                refine lv_iload hx hb dX6_numberOf_37 (lv_at hl 5 rfl) ?_
                refine lv_iload_n hx hb dX6_numberOf_39 rfl (lv_at hl 2 rfl) ?_
                refine lv_icmp_le (tgt := 60) hx hb dX6_numberOf_40 (by decide) (fun c_11 => ?_) (fun c_11 => ?_)
                · skip
                  have c_11' : v5_10.toInt ≤ a2.toInt := jb_le (rfl) (rfl) c_11
                  refine lv_lconst (v := 1) hx hb dX6_numberOf_60 (by decide) ?_
                  refine lv_lstore (lv' := [(6, .long 1), (0, .ref r0), (1, .ref r1), (2, .int a2), (3, .int a3), (4, .int a4), (5, .int v5_10)]) hx hb dX6_numberOf_61 hl (by decide) rfl (fun ls hl => ?_)
                  refine lv_iload hx hb dX6_numberOf_63 (lv_at hl 6 rfl) ?_
                  refine lv_iconst (v := 1) hx hb dX6_numberOf_65 (by decide) ?_
                  refine lv_isub hx hb dX6_numberOf_66 ?_
                  refine lv_topi (fun z_12 ez_12 => ?_)
                  have hz_12 : z_12.toInt = v5_10.toInt - 1 := by rw [ez_12]; exact jb_isub2 (rfl) ((by decide)) (by omega)
                  refine lv_istore (lv' := [(8, .int z_12), (6, .long 1), (0, .ref r0), (1, .ref r1), (2, .int a2), (3, .int a3), (4, .int a4), (5, .int v5_10)]) hx hb dX6_numberOf_67 hl (by decide) rfl (fun ls hl => ?_)
                  have L69 : ∀ (N : Nat) (v6_13 : Int64) (v8_13 : Int32) (H_13 : Heap) (locs_13 : List Loc), jSt (dC, dI) B base G0 G0 EX6_numberOfBu9 s.heap 0 0 [(r0, 8, 0, .ref xs), (r0, 8, 1, .ref xp), (r0, 8, 2, .ref xl)] [] [] H_13 locs_13 → jKl [r0, xs, xp, xl] s.heap H_13 → (a2.toInt - 1 ≤ v8_13.toInt ∧ v8_13.toInt < a3.toInt) → (v8_13.toInt + 1 - a2.toInt : Int) < N → ∀ ls : Array Slot, lv_has ls 10 [(0, .ref r0), (1, .ref r1), (2, .int a2), (3, .int a3), (4, .int a4), (5, .int v5_10), (6, .long v6_13), (8, .int v8_13)] → W p l e R s m ([.ref r0, .ref r1, .int a2, .int a3, .int a4] : List Value).toArray below meth c H_13 locs_13 0 0 Q (F0 m 69 ls []) := by
                    intro N
                    induction N with
                    | zero => intro v6_13 v8_13 H_13 locs_13 hh_13 hfl_13 hi_13 hm; exact absurd hm (by omega)
                    | succ N L69 =>
                      intro v6_13 v8_13 H_13 locs_13 hh_13 hfl_13 hi_13 hm_13 ls hl
                      obtain ⟨hi_13_0, hi_13_1⟩ := hi_13
                      refine lv_iload hx hb dX6_numberOf_69 (lv_at hl 7 rfl) ?_
                      refine lv_iload_n hx hb dX6_numberOf_71 rfl (lv_at hl 2 rfl) ?_
                      refine lv_icmp_lt (tgt := 108) hx hb dX6_numberOf_72 (by decide) (fun c_14 => ?_) (fun c_14 => ?_)
                      · skip
                        have c_14' : v8_13.toInt < a2.toInt := jb_lt (rfl) (rfl) c_14
                        refine lv_aload_n hx hb dX6_numberOf_108 rfl (lv_at hl 0 rfl) ?_
                        refine lv_lload hx hb dX6_numberOf_109 (lv_at hl 6 rfl) ?_
                        refine lv_iload_n hx hb dX6_numberOf_111 rfl (lv_at hl 3 rfl) ?_
                        refine lv_iload hx hb dX6_numberOf_112 (lv_at hl 5 rfl) ?_
                        refine lv_isub hx hb dX6_numberOf_114 ?_
                        refine lv_topi (fun z_15 ez_15 => ?_)
                        have hz_15 : z_15.toInt = a3.toInt - v5_10.toInt := by rw [ez_15]; exact jb_isub2 (rfl) (rfl) (by omega)
                        refine lv_iload hx hb dX6_numberOf_115 (lv_at hl 4 rfl) ?_
                        refine va_calli (A0 := jA base) (H0 := s.heap) (va_runV (As := [.long v6_13, .int z_15, .int a4]) (rest := []) ⟨hx, hb, hml, hown, hts⟩ (uX6_findB l dC dI ca base B hB hAp hB8 hB102 hB132 hB133 G0 H_13 r0 v6_13 z_15 a4 xs xp xl) (cwV 3 hts (jgV (jWr_7 _ (List.mem_of_getElem? (i := 22) rfl)) (jWr_7 _ (List.mem_of_getElem? (i := 23) rfl)) (jWr_8 _ (List.mem_of_getElem? (i := 0) rfl)) (jWr_4 _ (List.mem_of_getElem? (i := 10) rfl)) (jWr_8 _ (List.mem_of_getElem? (i := 1) rfl))) rfl rfl rfl (by decide +kernel) ⟨by rw [← hR]; exact Nat.le_of_ble_eq_true rfl, by rw [← hR]; exact Nat.le_of_ble_eq_true rfl⟩) ⟨fun a U g mk q => by obtain ⟨q0, q1, q2, qK, q10, q11, q12, q13, q14, q15⟩ := q; exact ⟨q0, q1, q2, jG.calling g mk a qK, q10, q11, q12, q13, q14, q15⟩, hh_13.recv (C := RX6) (T := TX6) (N := 4) hB8 rfl (by decide) hg_r0 hK, fun U hU hW => ⟨rfl, hU, hh_13.2.1, hG.step hW hU hh_13.1, hg_r0, hg_xs, hg_xp, hg_xl, (hh_13.2.2.1.sub (L1 := [(r0, 8, 0, .ref xs), (r0, 8, 1, .ref xp), (r0, 8, 2, .ref xl)]) [0, 1, 2] rfl), by first | omega | (refine ⟨?_, ?_⟩ <;> (first | omega | rfl | assumption | decide | exact Or.inl rfl | exact Or.inr rfl | (simp only; omega)))⟩⟩ rfl rfl hl.1 rfl (lv_room (Nat.le_of_ble_eq_true rfl)) dX6_numberOf_117 ⟨Nat.zero_le _, Nat.zero_le _⟩) hh_13.1 (fun q _ h => h) (fun q h => h) (fun r_17 u_16 t_16 H_16 locs_16 ht_16 hvm_16 hr_17 hb_16 hz_16 hk_16 hS_16 => ?_)
                        rw [ht_16] at hb_16
                        obtain ⟨hb_16, hbF_16⟩ := hb_16
                        obtain ⟨hb_161, hb_162, hb_163, hb_164, hb_165⟩ := hb_16
                        have hh_16 : jSt (dC, dI) B base G0 G0 EX6_numberOfBu9 s.heap 0 0 [(r0, 8, 0, .ref xs), (r0, 8, 1, .ref xp), (r0, 8, 2, .ref xl)] [] [] H_16 locs_16 := ((hh_13.call hb_161 hb_162 hb_163 hb_164 hS_16 rfl (L1 := [(r0, 8, 0, .ref xs), (r0, 8, 1, .ref xp), (r0, 8, 2, .ref xl)]) [0, 1, 2] rfl rfl (M1 := []) [] rfl rfl (I1 := []) [] rfl rfl).more hb_165)
                        clear hh_13 ht_16 hvm_16 hz_16 hk_16 hS_16 hb_161 hb_162 hb_163 hb_164 hb_165
                        have hfl_18 := hfl_13.tr hbF_16 (by first | exact fun q h => h | (intro q h9; simp at h9 ⊢; exact h9) | (intro q h9; simp at h9))
                        obtain ⟨hr_17_0, hr_17_1⟩ := hr_17
                        rw [hQ]
                        exact W.iret (v := r_17) hx hb hr (fun t ht hW => ⟨⟨r_17, (), rfl, by first | omega | (refine ⟨?_, ?_⟩ <;> (first | omega | rfl | assumption | decide | exact Or.inl rfl | exact Or.inr rfl | (simp only; omega))), ⟨hh_16.rt (M1 := []) [] rfl ht, by rw [ht]; exact hfl_18⟩⟩, by rw [ht]; try exact hh_16.1.1, fun q h9 hq => by rw [ht]; try exact hh_16.1.2.1 q h9 hq⟩) hh_16.1.2.2 dX6_numberOf_120
                      · skip
                        have c_14' : v8_13.toInt ≥ a2.toInt := jb_lt_n (rfl) (rfl) c_14
                        refine lv_aload_n hx hb dX6_numberOf_75 rfl (lv_at hl 1 rfl) ?_
                        refine lv_iload hx hb dX6_numberOf_76 (lv_at hl 7 rfl) ?_
                        refine j7_iald hx hb hK hh_13 hB174 1 rfl (by decide) hg_r1 (x := v8_13.toInt) (rfl) (by omega) dX6_numberOf_78 (fun z_19 (hz_19 : True) => ?_)
                        refine vp_callSi (W.runS (As := [.int z_19]) (rest := []) ⟨hx, hb, hml, hown, hts⟩ (wX6_signOf l dC dI ca base H_13 z_19) (va_cwS 1 hts (jgS (jWr_7 _ (List.mem_of_getElem? (i := 19) rfl)) (jWr_7 _ (List.mem_of_getElem? (i := 20) rfl)) (jWr_4 _ (List.mem_of_getElem? (i := 10) rfl)) (jWr_7 _ (List.mem_of_getElem? (i := 21) rfl))) rfl rfl rfl (by decide +kernel) ⟨by rw [← hR]; exact Nat.le_of_ble_eq_true rfl, by rw [← hR]; exact Nat.le_of_ble_eq_true rfl⟩) ⟨fun a U g mk q => by obtain ⟨q0, q1, qK, q9⟩ := q; exact ⟨q0, q1, jG.calling g mk a qK, q9⟩, fun U hU hW => ⟨rfl, hU, hG.step hW hU hh_13.1, by first | trivial | omega | (constructor <;> omega)⟩⟩ rfl rfl hl.1 rfl (lv_room (Nat.le_of_ble_eq_true rfl)) dX6_numberOf_79 ⟨Nat.zero_le _, Nat.zero_le _⟩) (fun r_20 hr_20 => ?_)
                        refine lv_istore (lv' := [(9, .int r_20), (0, .ref r0), (1, .ref r1), (2, .int a2), (3, .int a3), (4, .int a4), (5, .int v5_10), (6, .long v6_13), (8, .int v8_13)]) hx hb dX6_numberOf_82 hl (by decide) rfl (fun ls hl => ?_)
                        refine lv_iload hx hb dX6_numberOf_84 (lv_at hl 0 rfl) ?_
                        refine lv_if_ge (tgt := 91) hx hb dX6_numberOf_86 (by decide) (fun c_21 => ?_) (fun c_21 => ?_)
                        · skip
                          have c_21' : r_20.toInt ≥ 0 := jb_ge (rfl) ((by decide)) c_21
                          refine lv_lload hx hb dX6_numberOf_91 (lv_at hl 7 rfl) ?_
                          refine lv_bipush (v := 6) hx hb dX6_numberOf_93 (by decide) ?_
                          refine lv_lshl hx hb dX6_numberOf_95 rfl ?_
                          refine lv_topl (fun z_22 ez_22 => ?_)
                          refine lv_iload hx hb dX6_numberOf_96 (lv_at hl 0 rfl) ?_
                          refine lv_i2l hx hb dX6_numberOf_98 rfl ?_
                          refine lv_topl (fun z_23 ez_23 => ?_)
                          refine lv_lor hx hb dX6_numberOf_99 ?_
                          refine lv_topl (fun z_24 ez_24 => ?_)
                          refine lv_lstore (lv' := [(6, .long z_24), (9, .int r_20), (0, .ref r0), (1, .ref r1), (2, .int a2), (3, .int a3), (4, .int a4), (5, .int v5_10), (8, .int v8_13)]) hx hb dX6_numberOf_100 hl (by decide) rfl (fun ls hl => ?_)
                          obtain ⟨z_25, ez_25⟩ : ∃ y : Int32, y = v8_13 + (-1) := ⟨_, rfl⟩
                          refine lv_iinc (v := z_25) (lv' := [(8, .int z_25), (6, .long z_24), (9, .int r_20), (0, .ref r0), (1, .ref r1), (2, .int a2), (3, .int a3), (4, .int a4), (5, .int v5_10)]) hx hb dX6_numberOf_102 hl (k := 8) rfl (by rw [ez_25]; rfl) (by decide) rfl (fun ls hl => ?_)
                          have hz_25 : z_25.toInt = v8_13.toInt + (-1) := by rw [ez_25]; exact jb_iadd2 (rfl) (by decide) (by omega)
                          refine lv_goto (tgt := 69) hx hb dX6_numberOf_105 (by decide) ?_
                          exact L69 z_24 z_25 _ _ hh_13 (hfl_13) (by first | omega | (refine ⟨?_, ?_⟩ <;> (first | omega | rfl | assumption | decide | exact Or.inl rfl | exact Or.inr rfl | (simp only; omega)))) (by omega) _ (lv_sub hl [3, 4, 5, 6, 7, 8, 1, 0] rfl)
                        · skip
                          have c_21' : r_20.toInt < 0 := jb_ge_n (rfl) ((by decide)) c_21
                          refine lv_iconst (v := (-1)) hx hb dX6_numberOf_89 (by decide) ?_
                          rw [hQ]
                          exact W.iret (v := (-1)) hx hb hr (fun t ht hW => ⟨⟨(-1), (), rfl, by first | omega | (refine ⟨?_, ?_⟩ <;> (first | omega | rfl | assumption | decide | exact Or.inl rfl | exact Or.inr rfl | (simp only; omega))), ⟨hh_13.rt (M1 := []) [] rfl ht, by rw [ht]; exact hfl_13⟩⟩, by rw [ht]; try exact hh_13.1.1, fun q h9 hq => by rw [ht]; try exact hh_13.1.2.1 q h9 hq⟩) hh_13.1.2.2 dX6_numberOf_90
                  exact L69 ((z_12 : Int32).toInt + 1 - a2.toInt : Int).toNat.succ 1 z_12 _ _ hh_10 (hfl_10) (by first | omega | (refine ⟨?_, ?_⟩ <;> (first | omega | rfl | assumption | decide | exact Or.inl rfl | exact Or.inr rfl | (simp only; omega)))) (by omega) _ (lv_sub hl [2, 3, 4, 5, 6, 7, 1, 0] rfl)
                · skip
                  have c_11' : v5_10.toInt > a2.toInt := jb_le_n (rfl) (rfl) c_11
                  refine lv_aload_n hx hb dX6_numberOf_43 rfl (lv_at hl 1 rfl) ?_
                  refine lv_iload hx hb dX6_numberOf_44 (lv_at hl 5 rfl) ?_
                  refine lv_iconst (v := 1) hx hb dX6_numberOf_46 (by decide) ?_
                  refine lv_isub hx hb dX6_numberOf_47 ?_
                  refine lv_topi (fun z_26 ez_26 => ?_)
                  have hz_26 : z_26.toInt = v5_10.toInt - 1 := by rw [ez_26]; exact jb_isub2 (rfl) ((by decide)) (by omega)
                  refine j7_iald hx hb hK hh_10 hB174 1 rfl (by decide) hg_r1 (x := z_26.toInt) (rfl) (by omega) dX6_numberOf_48 (fun z_27 (hz_27 : True) => ?_)
                  refine lv_bipush (v := 39) hx hb dX6_numberOf_49 (by decide) ?_
                  refine lv_icmp_ne (tgt := 60) hx hb dX6_numberOf_51 (by decide) (fun c_28 => ?_) (fun c_28 => ?_)
                  · skip
                    have c_28' : z_27.toInt ≠ 39 := jb_ne (rfl) ((by decide)) c_28
                    refine lv_lconst (v := 1) hx hb dX6_numberOf_60 (by decide) ?_
                    refine lv_lstore (lv' := [(6, .long 1), (0, .ref r0), (1, .ref r1), (2, .int a2), (3, .int a3), (4, .int a4), (5, .int v5_10)]) hx hb dX6_numberOf_61 hl (by decide) rfl (fun ls hl => ?_)
                    refine lv_iload hx hb dX6_numberOf_63 (lv_at hl 6 rfl) ?_
                    refine lv_iconst (v := 1) hx hb dX6_numberOf_65 (by decide) ?_
                    refine lv_isub hx hb dX6_numberOf_66 ?_
                    refine lv_topi (fun z_29 ez_29 => ?_)
                    have hz_29 : z_29.toInt = v5_10.toInt - 1 := by rw [ez_29]; exact jb_isub2 (rfl) ((by decide)) (by omega)
                    refine lv_istore (lv' := [(8, .int z_29), (6, .long 1), (0, .ref r0), (1, .ref r1), (2, .int a2), (3, .int a3), (4, .int a4), (5, .int v5_10)]) hx hb dX6_numberOf_67 hl (by decide) rfl (fun ls hl => ?_)
                    have L69 : ∀ (N : Nat) (v6_30 : Int64) (v8_30 : Int32) (H_30 : Heap) (locs_30 : List Loc), jSt (dC, dI) B base G0 G0 EX6_numberOfBu9 s.heap 0 0 [(r0, 8, 0, .ref xs), (r0, 8, 1, .ref xp), (r0, 8, 2, .ref xl)] [] [] H_30 locs_30 → jKl [r0, xs, xp, xl] s.heap H_30 → (a2.toInt - 1 ≤ v8_30.toInt ∧ v8_30.toInt < a3.toInt) → (v8_30.toInt + 1 - a2.toInt : Int) < N → ∀ ls : Array Slot, lv_has ls 10 [(0, .ref r0), (1, .ref r1), (2, .int a2), (3, .int a3), (4, .int a4), (5, .int v5_10), (6, .long v6_30), (8, .int v8_30)] → W p l e R s m ([.ref r0, .ref r1, .int a2, .int a3, .int a4] : List Value).toArray below meth c H_30 locs_30 0 0 Q (F0 m 69 ls []) := by
                      intro N
                      induction N with
                      | zero => intro v6_30 v8_30 H_30 locs_30 hh_30 hfl_30 hi_30 hm; exact absurd hm (by omega)
                      | succ N L69 =>
                        intro v6_30 v8_30 H_30 locs_30 hh_30 hfl_30 hi_30 hm_30 ls hl
                        obtain ⟨hi_30_0, hi_30_1⟩ := hi_30
                        refine lv_iload hx hb dX6_numberOf_69 (lv_at hl 7 rfl) ?_
                        refine lv_iload_n hx hb dX6_numberOf_71 rfl (lv_at hl 2 rfl) ?_
                        refine lv_icmp_lt (tgt := 108) hx hb dX6_numberOf_72 (by decide) (fun c_31 => ?_) (fun c_31 => ?_)
                        · skip
                          have c_31' : v8_30.toInt < a2.toInt := jb_lt (rfl) (rfl) c_31
                          refine lv_aload_n hx hb dX6_numberOf_108 rfl (lv_at hl 0 rfl) ?_
                          refine lv_lload hx hb dX6_numberOf_109 (lv_at hl 6 rfl) ?_
                          refine lv_iload_n hx hb dX6_numberOf_111 rfl (lv_at hl 3 rfl) ?_
                          refine lv_iload hx hb dX6_numberOf_112 (lv_at hl 5 rfl) ?_
                          refine lv_isub hx hb dX6_numberOf_114 ?_
                          refine lv_topi (fun z_32 ez_32 => ?_)
                          have hz_32 : z_32.toInt = a3.toInt - v5_10.toInt := by rw [ez_32]; exact jb_isub2 (rfl) (rfl) (by omega)
                          refine lv_iload hx hb dX6_numberOf_115 (lv_at hl 4 rfl) ?_
                          refine va_calli (A0 := jA base) (H0 := s.heap) (va_runV (As := [.long v6_30, .int z_32, .int a4]) (rest := []) ⟨hx, hb, hml, hown, hts⟩ (uX6_findB l dC dI ca base B hB hAp hB8 hB102 hB132 hB133 G0 H_30 r0 v6_30 z_32 a4 xs xp xl) (cwV 3 hts (jgV (jWr_7 _ (List.mem_of_getElem? (i := 22) rfl)) (jWr_7 _ (List.mem_of_getElem? (i := 23) rfl)) (jWr_8 _ (List.mem_of_getElem? (i := 0) rfl)) (jWr_4 _ (List.mem_of_getElem? (i := 10) rfl)) (jWr_8 _ (List.mem_of_getElem? (i := 1) rfl))) rfl rfl rfl (by decide +kernel) ⟨by rw [← hR]; exact Nat.le_of_ble_eq_true rfl, by rw [← hR]; exact Nat.le_of_ble_eq_true rfl⟩) ⟨fun a U g mk q => by obtain ⟨q0, q1, q2, qK, q10, q11, q12, q13, q14, q15⟩ := q; exact ⟨q0, q1, q2, jG.calling g mk a qK, q10, q11, q12, q13, q14, q15⟩, hh_30.recv (C := RX6) (T := TX6) (N := 4) hB8 rfl (by decide) hg_r0 hK, fun U hU hW => ⟨rfl, hU, hh_30.2.1, hG.step hW hU hh_30.1, hg_r0, hg_xs, hg_xp, hg_xl, (hh_30.2.2.1.sub (L1 := [(r0, 8, 0, .ref xs), (r0, 8, 1, .ref xp), (r0, 8, 2, .ref xl)]) [0, 1, 2] rfl), by first | omega | (refine ⟨?_, ?_⟩ <;> (first | omega | rfl | assumption | decide | exact Or.inl rfl | exact Or.inr rfl | (simp only; omega)))⟩⟩ rfl rfl hl.1 rfl (lv_room (Nat.le_of_ble_eq_true rfl)) dX6_numberOf_117 ⟨Nat.zero_le _, Nat.zero_le _⟩) hh_30.1 (fun q _ h => h) (fun q h => h) (fun r_34 u_33 t_33 H_33 locs_33 ht_33 hvm_33 hr_34 hb_33 hz_33 hk_33 hS_33 => ?_)
                          rw [ht_33] at hb_33
                          obtain ⟨hb_33, hbF_33⟩ := hb_33
                          obtain ⟨hb_331, hb_332, hb_333, hb_334, hb_335⟩ := hb_33
                          have hh_33 : jSt (dC, dI) B base G0 G0 EX6_numberOfBu9 s.heap 0 0 [(r0, 8, 0, .ref xs), (r0, 8, 1, .ref xp), (r0, 8, 2, .ref xl)] [] [] H_33 locs_33 := ((hh_30.call hb_331 hb_332 hb_333 hb_334 hS_33 rfl (L1 := [(r0, 8, 0, .ref xs), (r0, 8, 1, .ref xp), (r0, 8, 2, .ref xl)]) [0, 1, 2] rfl rfl (M1 := []) [] rfl rfl (I1 := []) [] rfl rfl).more hb_335)
                          clear hh_30 ht_33 hvm_33 hz_33 hk_33 hS_33 hb_331 hb_332 hb_333 hb_334 hb_335
                          have hfl_35 := hfl_30.tr hbF_33 (by first | exact fun q h => h | (intro q h9; simp at h9 ⊢; exact h9) | (intro q h9; simp at h9))
                          obtain ⟨hr_34_0, hr_34_1⟩ := hr_34
                          rw [hQ]
                          exact W.iret (v := r_34) hx hb hr (fun t ht hW => ⟨⟨r_34, (), rfl, by first | omega | (refine ⟨?_, ?_⟩ <;> (first | omega | rfl | assumption | decide | exact Or.inl rfl | exact Or.inr rfl | (simp only; omega))), ⟨hh_33.rt (M1 := []) [] rfl ht, by rw [ht]; exact hfl_35⟩⟩, by rw [ht]; try exact hh_33.1.1, fun q h9 hq => by rw [ht]; try exact hh_33.1.2.1 q h9 hq⟩) hh_33.1.2.2 dX6_numberOf_120
                        · skip
                          have c_31' : v8_30.toInt ≥ a2.toInt := jb_lt_n (rfl) (rfl) c_31
                          refine lv_aload_n hx hb dX6_numberOf_75 rfl (lv_at hl 1 rfl) ?_
                          refine lv_iload hx hb dX6_numberOf_76 (lv_at hl 7 rfl) ?_
                          refine j7_iald hx hb hK hh_30 hB174 1 rfl (by decide) hg_r1 (x := v8_30.toInt) (rfl) (by omega) dX6_numberOf_78 (fun z_36 (hz_36 : True) => ?_)
                          refine vp_callSi (W.runS (As := [.int z_36]) (rest := []) ⟨hx, hb, hml, hown, hts⟩ (wX6_signOf l dC dI ca base H_30 z_36) (va_cwS 1 hts (jgS (jWr_7 _ (List.mem_of_getElem? (i := 19) rfl)) (jWr_7 _ (List.mem_of_getElem? (i := 20) rfl)) (jWr_4 _ (List.mem_of_getElem? (i := 10) rfl)) (jWr_7 _ (List.mem_of_getElem? (i := 21) rfl))) rfl rfl rfl (by decide +kernel) ⟨by rw [← hR]; exact Nat.le_of_ble_eq_true rfl, by rw [← hR]; exact Nat.le_of_ble_eq_true rfl⟩) ⟨fun a U g mk q => by obtain ⟨q0, q1, qK, q9⟩ := q; exact ⟨q0, q1, jG.calling g mk a qK, q9⟩, fun U hU hW => ⟨rfl, hU, hG.step hW hU hh_30.1, by first | trivial | omega | (constructor <;> omega)⟩⟩ rfl rfl hl.1 rfl (lv_room (Nat.le_of_ble_eq_true rfl)) dX6_numberOf_79 ⟨Nat.zero_le _, Nat.zero_le _⟩) (fun r_37 hr_37 => ?_)
                          refine lv_istore (lv' := [(9, .int r_37), (0, .ref r0), (1, .ref r1), (2, .int a2), (3, .int a3), (4, .int a4), (5, .int v5_10), (6, .long v6_30), (8, .int v8_30)]) hx hb dX6_numberOf_82 hl (by decide) rfl (fun ls hl => ?_)
                          refine lv_iload hx hb dX6_numberOf_84 (lv_at hl 0 rfl) ?_
                          refine lv_if_ge (tgt := 91) hx hb dX6_numberOf_86 (by decide) (fun c_38 => ?_) (fun c_38 => ?_)
                          · skip
                            have c_38' : r_37.toInt ≥ 0 := jb_ge (rfl) ((by decide)) c_38
                            refine lv_lload hx hb dX6_numberOf_91 (lv_at hl 7 rfl) ?_
                            refine lv_bipush (v := 6) hx hb dX6_numberOf_93 (by decide) ?_
                            refine lv_lshl hx hb dX6_numberOf_95 rfl ?_
                            refine lv_topl (fun z_39 ez_39 => ?_)
                            refine lv_iload hx hb dX6_numberOf_96 (lv_at hl 0 rfl) ?_
                            refine lv_i2l hx hb dX6_numberOf_98 rfl ?_
                            refine lv_topl (fun z_40 ez_40 => ?_)
                            refine lv_lor hx hb dX6_numberOf_99 ?_
                            refine lv_topl (fun z_41 ez_41 => ?_)
                            refine lv_lstore (lv' := [(6, .long z_41), (9, .int r_37), (0, .ref r0), (1, .ref r1), (2, .int a2), (3, .int a3), (4, .int a4), (5, .int v5_10), (8, .int v8_30)]) hx hb dX6_numberOf_100 hl (by decide) rfl (fun ls hl => ?_)
                            obtain ⟨z_42, ez_42⟩ : ∃ y : Int32, y = v8_30 + (-1) := ⟨_, rfl⟩
                            refine lv_iinc (v := z_42) (lv' := [(8, .int z_42), (6, .long z_41), (9, .int r_37), (0, .ref r0), (1, .ref r1), (2, .int a2), (3, .int a3), (4, .int a4), (5, .int v5_10)]) hx hb dX6_numberOf_102 hl (k := 8) rfl (by rw [ez_42]; rfl) (by decide) rfl (fun ls hl => ?_)
                            have hz_42 : z_42.toInt = v8_30.toInt + (-1) := by rw [ez_42]; exact jb_iadd2 (rfl) (by decide) (by omega)
                            refine lv_goto (tgt := 69) hx hb dX6_numberOf_105 (by decide) ?_
                            exact L69 z_41 z_42 _ _ hh_30 (hfl_30) (by first | omega | (refine ⟨?_, ?_⟩ <;> (first | omega | rfl | assumption | decide | exact Or.inl rfl | exact Or.inr rfl | (simp only; omega)))) (by omega) _ (lv_sub hl [3, 4, 5, 6, 7, 8, 1, 0] rfl)
                          · skip
                            have c_38' : r_37.toInt < 0 := jb_ge_n (rfl) ((by decide)) c_38
                            refine lv_iconst (v := (-1)) hx hb dX6_numberOf_89 (by decide) ?_
                            rw [hQ]
                            exact W.iret (v := (-1)) hx hb hr (fun t ht hW => ⟨⟨(-1), (), rfl, by first | omega | (refine ⟨?_, ?_⟩ <;> (first | omega | rfl | assumption | decide | exact Or.inl rfl | exact Or.inr rfl | (simp only; omega))), ⟨hh_30.rt (M1 := []) [] rfl ht, by rw [ht]; exact hfl_30⟩⟩, by rw [ht]; try exact hh_30.1.1, fun q h9 hq => by rw [ht]; try exact hh_30.1.2.1 q h9 hq⟩) hh_30.1.2.2 dX6_numberOf_90
                    exact L69 ((z_29 : Int32).toInt + 1 - a2.toInt : Int).toNat.succ 1 z_29 _ _ hh_10 (hfl_10) (by first | omega | (refine ⟨?_, ?_⟩ <;> (first | omega | rfl | assumption | decide | exact Or.inl rfl | exact Or.inr rfl | (simp only; omega)))) (by omega) _ (lv_sub hl [2, 3, 4, 5, 6, 7, 1, 0] rfl)
                  · skip
                    have c_28' : z_27.toInt = 39 := jb_ne_n (rfl) ((by decide)) c_28
                    obtain ⟨z_43, ez_43⟩ : ∃ y : Int32, y = v5_10 + (-1) := ⟨_, rfl⟩
                    refine lv_iinc (v := z_43) (lv' := [(5, .int z_43), (0, .ref r0), (1, .ref r1), (2, .int a2), (3, .int a3), (4, .int a4)]) hx hb dX6_numberOf_54 hl (k := 5) rfl (by rw [ez_43]; rfl) (by decide) rfl (fun ls hl => ?_)
                    have hz_43 : z_43.toInt = v5_10.toInt + (-1) := by rw [ez_43]; exact jb_iadd2 (rfl) (by decide) (by omega)
                    refine lv_goto (tgt := 37) hx hb dX6_numberOf_57 (by decide) ?_
                    exact L37 z_43 _ _ hh_10 (hfl_10) (by first | omega | (refine ⟨?_, ?_⟩ <;> (first | omega | rfl | assumption | decide | exact Or.inl rfl | exact Or.inr rfl | (simp only; omega)))) (by omega) _ (lv_sub hl [1, 2, 3, 4, 5, 0] rfl)
            exact L37 ((a3 : Int32).toInt - a2.toInt : Int).toNat.succ a3 _ _ hh (hfl) (by first | omega | (refine ⟨?_, ?_⟩ <;> (first | omega | rfl | assumption | decide | exact Or.inl rfl | exact Or.inr rfl | (simp only; omega)))) (by omega) _ (lv_sub hl [1, 2, 3, 4, 5, 0] rfl)
          · skip
            have c_9' : r_8.toInt = 0 := jb_ne_n (rfl) ((by decide)) c_9
            refine lv_iconst (v := (-1)) hx hb dX6_numberOf_32 (by decide) ?_
            rw [hQ]
            exact W.iret (v := (-1)) hx hb hr (fun t ht hW => ⟨⟨(-1), (), rfl, by first | omega | (refine ⟨?_, ?_⟩ <;> (first | omega | rfl | assumption | decide | exact Or.inl rfl | exact Or.inr rfl | (simp only; omega))), ⟨hh.rt (M1 := []) [] rfl ht, by rw [ht]; exact hfl⟩⟩, by rw [ht]; try exact hh.1.1, fun q h9 hq => by rw [ht]; try exact hh.1.2.1 q h9 hq⟩) hh.1.2.2 dX6_numberOf_33
end
