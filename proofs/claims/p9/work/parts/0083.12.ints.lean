section
theorem dX0_decodedSize_0 : decode cX0_decodedSize 0 = .ok (.iload_n 0, 1) := by decide +kernel
theorem dX0_decodedSize_1 : decode cX0_decodedSize 1 = .ok (.sipush 128, 3) := by decide +kernel
theorem dX0_decodedSize_4 : decode cX0_decodedSize 4 = .ok (.if_icmp .ge 7, 3) := by decide +kernel
theorem dX0_decodedSize_7 : decode cX0_decodedSize 7 = .ok (.iconst 1, 1) := by decide +kernel
theorem dX0_decodedSize_8 : decode cX0_decodedSize 8 = .ok (.goto 25, 3) := by decide +kernel
theorem dX0_decodedSize_11 : decode cX0_decodedSize 11 = .ok (.iload_n 0, 1) := by decide +kernel
theorem dX0_decodedSize_12 : decode cX0_decodedSize 12 = .ok (.sipush 2048, 3) := by decide +kernel
theorem dX0_decodedSize_15 : decode cX0_decodedSize 15 = .ok (.if_icmp .ge 7, 3) := by decide +kernel
theorem dX0_decodedSize_18 : decode cX0_decodedSize 18 = .ok (.iconst 2, 1) := by decide +kernel
theorem dX0_decodedSize_19 : decode cX0_decodedSize 19 = .ok (.goto 14, 3) := by decide +kernel
theorem dX0_decodedSize_22 : decode cX0_decodedSize 22 = .ok (.iload_n 0, 1) := by decide +kernel
theorem dX0_decodedSize_23 : decode cX0_decodedSize 23 = .ok (.ldc 60, 2) := by decide +kernel
theorem dX0_decodedSize_25 : decode cX0_decodedSize 25 = .ok (.if_icmp .ge 7, 3) := by decide +kernel
theorem dX0_decodedSize_28 : decode cX0_decodedSize 28 = .ok (.iconst 3, 1) := by decide +kernel
theorem dX0_decodedSize_29 : decode cX0_decodedSize 29 = .ok (.goto 4, 3) := by decide +kernel
theorem dX0_decodedSize_32 : decode cX0_decodedSize 32 = .ok (.iconst 4, 1) := by decide +kernel
theorem dX0_decodedSize_33 : decode cX0_decodedSize 33 = .ok (.ireturn, 1) := by decide +kernel
theorem dX11_isBlank_0 : decode cX11_isBlank 0 = .ok (.iload_n 0, 1) := by decide +kernel
theorem dX11_isBlank_1 : decode cX11_isBlank 1 = .ok (.bipush 32, 2) := by decide +kernel
theorem dX11_isBlank_3 : decode cX11_isBlank 3 = .ok (.if_icmp .eq 21, 3) := by decide +kernel
theorem dX11_isBlank_6 : decode cX11_isBlank 6 = .ok (.iload_n 0, 1) := by decide +kernel
theorem dX11_isBlank_7 : decode cX11_isBlank 7 = .ok (.bipush 9, 2) := by decide +kernel
theorem dX11_isBlank_9 : decode cX11_isBlank 9 = .ok (.if_icmp .eq 15, 3) := by decide +kernel
theorem dX11_isBlank_12 : decode cX11_isBlank 12 = .ok (.iload_n 0, 1) := by decide +kernel
theorem dX11_isBlank_13 : decode cX11_isBlank 13 = .ok (.bipush 10, 2) := by decide +kernel
theorem dX11_isBlank_15 : decode cX11_isBlank 15 = .ok (.if_icmp .eq 9, 3) := by decide +kernel
theorem dX11_isBlank_18 : decode cX11_isBlank 18 = .ok (.iload_n 0, 1) := by decide +kernel
theorem dX11_isBlank_19 : decode cX11_isBlank 19 = .ok (.bipush 13, 2) := by decide +kernel
theorem dX11_isBlank_21 : decode cX11_isBlank 21 = .ok (.if_icmp .ne 7, 3) := by decide +kernel
theorem dX11_isBlank_24 : decode cX11_isBlank 24 = .ok (.iconst 1, 1) := by decide +kernel
theorem dX11_isBlank_25 : decode cX11_isBlank 25 = .ok (.goto 4, 3) := by decide +kernel
theorem dX11_isBlank_28 : decode cX11_isBlank 28 = .ok (.iconst 0, 1) := by decide +kernel
theorem dX11_isBlank_29 : decode cX11_isBlank 29 = .ok (.ireturn, 1) := by decide +kernel
end
section
theorem dX0_decoded_0 : decode cX0_decoded 0 = .ok (.iload_n 1, 1) := by decide +kernel
theorem dX0_decoded_1 : decode cX0_decoded 1 = .ok (.ifCond .lt 14, 3) := by decide +kernel
theorem dX0_decoded_4 : decode cX0_decoded 4 = .ok (.iload_n 1, 1) := by decide +kernel
theorem dX0_decoded_5 : decode cX0_decoded 5 = .ok (.iload_n 2, 1) := by decide +kernel
theorem dX0_decoded_6 : decode cX0_decoded 6 = .ok (.if_icmp .ge 9, 3) := by decide +kernel
theorem dX0_decoded_9 : decode cX0_decoded 9 = .ok (.iload_n 2, 1) := by decide +kernel
theorem dX0_decoded_10 : decode cX0_decoded 10 = .ok (.aload_n 0, 1) := by decide +kernel
theorem dX0_decoded_11 : decode cX0_decoded 11 = .ok (.arraylength, 1) := by decide +kernel
theorem dX0_decoded_12 : decode cX0_decoded 12 = .ok (.if_icmp .le 5, 3) := by decide +kernel
theorem dX0_decoded_17 : decode cX0_decoded 17 = .ok (.aload_n 0, 1) := by decide +kernel
theorem dX0_decoded_18 : decode cX0_decoded 18 = .ok (.iload_n 1, 1) := by decide +kernel
theorem dX0_decoded_19 : decode cX0_decoded 19 = .ok (.baload, 1) := by decide +kernel
theorem dX0_decoded_20 : decode cX0_decoded 20 = .ok (.sipush 255, 3) := by decide +kernel
theorem dX0_decoded_23 : decode cX0_decoded 23 = .ok (.iand, 1) := by decide +kernel
theorem dX0_decoded_24 : decode cX0_decoded 24 = .ok (.istore_n 3, 1) := by decide +kernel
theorem dX0_decoded_25 : decode cX0_decoded 25 = .ok (.iload_n 3, 1) := by decide +kernel
theorem dX0_decoded_26 : decode cX0_decoded 26 = .ok (.sipush 128, 3) := by decide +kernel
theorem dX0_decoded_29 : decode cX0_decoded 29 = .ok (.if_icmp .ge 5, 3) := by decide +kernel
theorem dX0_decoded_32 : decode cX0_decoded 32 = .ok (.iload_n 3, 1) := by decide +kernel
theorem dX0_decoded_33 : decode cX0_decoded 33 = .ok (.ireturn, 1) := by decide +kernel
theorem dX0_decoded_34 : decode cX0_decoded 34 = .ok (.iload_n 3, 1) := by decide +kernel
theorem dX0_decoded_35 : decode cX0_decoded 35 = .ok (.sipush 240, 3) := by decide +kernel
theorem dX0_decoded_38 : decode cX0_decoded 38 = .ok (.if_icmp .lt 7, 3) := by decide +kernel
theorem dX0_decoded_41 : decode cX0_decoded 41 = .ok (.iconst 3, 1) := by decide +kernel
theorem dX0_decoded_42 : decode cX0_decoded 42 = .ok (.goto 15, 3) := by decide +kernel
theorem dX0_decoded_45 : decode cX0_decoded 45 = .ok (.iload_n 3, 1) := by decide +kernel
theorem dX0_decoded_46 : decode cX0_decoded 46 = .ok (.sipush 224, 3) := by decide +kernel
theorem dX0_decoded_49 : decode cX0_decoded 49 = .ok (.if_icmp .lt 7, 3) := by decide +kernel
theorem dX0_decoded_52 : decode cX0_decoded 52 = .ok (.iconst 2, 1) := by decide +kernel
theorem dX0_decoded_53 : decode cX0_decoded 53 = .ok (.goto 4, 3) := by decide +kernel
theorem dX0_decoded_56 : decode cX0_decoded 56 = .ok (.iconst 1, 1) := by decide +kernel
theorem dX0_decoded_57 : decode cX0_decoded 57 = .ok (.istore 4, 2) := by decide +kernel
theorem dX0_decoded_59 : decode cX0_decoded 59 = .ok (.iload_n 3, 1) := by decide +kernel
theorem dX0_decoded_60 : decode cX0_decoded 60 = .ok (.sipush 194, 3) := by decide +kernel
theorem dX0_decoded_63 : decode cX0_decoded 63 = .ok (.if_icmp .lt 18, 3) := by decide +kernel
theorem dX0_decoded_66 : decode cX0_decoded 66 = .ok (.iload_n 3, 1) := by decide +kernel
theorem dX0_decoded_67 : decode cX0_decoded 67 = .ok (.sipush 244, 3) := by decide +kernel
theorem dX0_decoded_70 : decode cX0_decoded 70 = .ok (.if_icmp .gt 11, 3) := by decide +kernel
theorem dX0_decoded_73 : decode cX0_decoded 73 = .ok (.iload 4, 2) := by decide +kernel
theorem dX0_decoded_75 : decode cX0_decoded 75 = .ok (.iload_n 2, 1) := by decide +kernel
theorem dX0_decoded_76 : decode cX0_decoded 76 = .ok (.iload_n 1, 1) := by decide +kernel
theorem dX0_decoded_77 : decode cX0_decoded 77 = .ok (.isub, 1) := by decide +kernel
theorem dX0_decoded_78 : decode cX0_decoded 78 = .ok (.if_icmp .lt 5, 3) := by decide +kernel
theorem dX0_decoded_81 : decode cX0_decoded 81 = .ok (.iconst (-1), 1) := by decide +kernel
theorem dX0_decoded_82 : decode cX0_decoded 82 = .ok (.ireturn, 1) := by decide +kernel
theorem dX0_decoded_83 : decode cX0_decoded 83 = .ok (.iload_n 3, 1) := by decide +kernel
theorem dX0_decoded_84 : decode cX0_decoded 84 = .ok (.bipush 63, 2) := by decide +kernel
theorem dX0_decoded_86 : decode cX0_decoded 86 = .ok (.iload 4, 2) := by decide +kernel
theorem dX0_decoded_88 : decode cX0_decoded 88 = .ok (.ishr, 1) := by decide +kernel
theorem dX0_decoded_89 : decode cX0_decoded 89 = .ok (.iand, 1) := by decide +kernel
theorem dX0_decoded_90 : decode cX0_decoded 90 = .ok (.istore 5, 2) := by decide +kernel
theorem dX0_decoded_92 : decode cX0_decoded 92 = .ok (.iconst 1, 1) := by decide +kernel
theorem dX0_decoded_93 : decode cX0_decoded 93 = .ok (.istore 6, 2) := by decide +kernel
theorem dX0_decoded_95 : decode cX0_decoded 95 = .ok (.iload 6, 2) := by decide +kernel
theorem dX0_decoded_97 : decode cX0_decoded 97 = .ok (.iload 4, 2) := by decide +kernel
theorem dX0_decoded_99 : decode cX0_decoded 99 = .ok (.if_icmp .gt 48, 3) := by decide +kernel
theorem dX0_decoded_102 : decode cX0_decoded 102 = .ok (.aload_n 0, 1) := by decide +kernel
theorem dX0_decoded_103 : decode cX0_decoded 103 = .ok (.iload_n 1, 1) := by decide +kernel
theorem dX0_decoded_104 : decode cX0_decoded 104 = .ok (.iload 6, 2) := by decide +kernel
theorem dX0_decoded_106 : decode cX0_decoded 106 = .ok (.iadd, 1) := by decide +kernel
theorem dX0_decoded_107 : decode cX0_decoded 107 = .ok (.baload, 1) := by decide +kernel
theorem dX0_decoded_108 : decode cX0_decoded 108 = .ok (.sipush 255, 3) := by decide +kernel
theorem dX0_decoded_111 : decode cX0_decoded 111 = .ok (.iand, 1) := by decide +kernel
theorem dX0_decoded_112 : decode cX0_decoded 112 = .ok (.istore 7, 2) := by decide +kernel
theorem dX0_decoded_114 : decode cX0_decoded 114 = .ok (.iload 7, 2) := by decide +kernel
theorem dX0_decoded_116 : decode cX0_decoded 116 = .ok (.sipush 192, 3) := by decide +kernel
theorem dX0_decoded_119 : decode cX0_decoded 119 = .ok (.iand, 1) := by decide +kernel
theorem dX0_decoded_120 : decode cX0_decoded 120 = .ok (.sipush 128, 3) := by decide +kernel
theorem dX0_decoded_123 : decode cX0_decoded 123 = .ok (.if_icmp .eq 5, 3) := by decide +kernel
theorem dX0_decoded_126 : decode cX0_decoded 126 = .ok (.iconst (-1), 1) := by decide +kernel
theorem dX0_decoded_127 : decode cX0_decoded 127 = .ok (.ireturn, 1) := by decide +kernel
theorem dX0_decoded_128 : decode cX0_decoded 128 = .ok (.iload 5, 2) := by decide +kernel
theorem dX0_decoded_130 : decode cX0_decoded 130 = .ok (.bipush 6, 2) := by decide +kernel
theorem dX0_decoded_132 : decode cX0_decoded 132 = .ok (.ishl, 1) := by decide +kernel
theorem dX0_decoded_133 : decode cX0_decoded 133 = .ok (.iload 7, 2) := by decide +kernel
theorem dX0_decoded_135 : decode cX0_decoded 135 = .ok (.bipush 63, 2) := by decide +kernel
theorem dX0_decoded_137 : decode cX0_decoded 137 = .ok (.iand, 1) := by decide +kernel
theorem dX0_decoded_138 : decode cX0_decoded 138 = .ok (.ior, 1) := by decide +kernel
theorem dX0_decoded_139 : decode cX0_decoded 139 = .ok (.istore 5, 2) := by decide +kernel
theorem dX0_decoded_141 : decode cX0_decoded 141 = .ok (.iinc 6 1, 3) := by decide +kernel
theorem dX0_decoded_144 : decode cX0_decoded 144 = .ok (.goto (-49), 3) := by decide +kernel
theorem dX0_decoded_147 : decode cX0_decoded 147 = .ok (.iload 4, 2) := by decide +kernel
theorem dX0_decoded_149 : decode cX0_decoded 149 = .ok (.iconst 2, 1) := by decide +kernel
theorem dX0_decoded_150 : decode cX0_decoded 150 = .ok (.if_icmp .ne 11, 3) := by decide +kernel
theorem dX0_decoded_153 : decode cX0_decoded 153 = .ok (.iload 5, 2) := by decide +kernel
theorem dX0_decoded_155 : decode cX0_decoded 155 = .ok (.sipush 2048, 3) := by decide +kernel
theorem dX0_decoded_158 : decode cX0_decoded 158 = .ok (.if_icmp .lt 16, 3) := by decide +kernel
theorem dX0_decoded_161 : decode cX0_decoded 161 = .ok (.iload 4, 2) := by decide +kernel
theorem dX0_decoded_163 : decode cX0_decoded 163 = .ok (.iconst 3, 1) := by decide +kernel
theorem dX0_decoded_164 : decode cX0_decoded 164 = .ok (.if_icmp .ne 14, 3) := by decide +kernel
theorem dX0_decoded_167 : decode cX0_decoded 167 = .ok (.iload 5, 2) := by decide +kernel
theorem dX0_decoded_169 : decode cX0_decoded 169 = .ok (.ldc 60, 2) := by decide +kernel
theorem dX0_decoded_171 : decode cX0_decoded 171 = .ok (.if_icmp .ge 7, 3) := by decide +kernel
theorem dX0_decoded_174 : decode cX0_decoded 174 = .ok (.iconst 1, 1) := by decide +kernel
theorem dX0_decoded_175 : decode cX0_decoded 175 = .ok (.goto 4, 3) := by decide +kernel
theorem dX0_decoded_178 : decode cX0_decoded 178 = .ok (.iconst 0, 1) := by decide +kernel
theorem dX0_decoded_179 : decode cX0_decoded 179 = .ok (.istore 6, 2) := by decide +kernel
theorem dX0_decoded_181 : decode cX0_decoded 181 = .ok (.iload 6, 2) := by decide +kernel
theorem dX0_decoded_183 : decode cX0_decoded 183 = .ok (.ifCond .ne 24, 3) := by decide +kernel
theorem dX0_decoded_186 : decode cX0_decoded 186 = .ok (.iload 5, 2) := by decide +kernel
theorem dX0_decoded_188 : decode cX0_decoded 188 = .ok (.ldc 74, 2) := by decide +kernel
theorem dX0_decoded_190 : decode cX0_decoded 190 = .ok (.if_icmp .gt 17, 3) := by decide +kernel
theorem dX0_decoded_193 : decode cX0_decoded 193 = .ok (.iload 5, 2) := by decide +kernel
theorem dX0_decoded_195 : decode cX0_decoded 195 = .ok (.ldc 61, 2) := by decide +kernel
theorem dX0_decoded_197 : decode cX0_decoded 197 = .ok (.if_icmp .lt 14, 3) := by decide +kernel
theorem dX0_decoded_200 : decode cX0_decoded 200 = .ok (.iload 5, 2) := by decide +kernel
theorem dX0_decoded_202 : decode cX0_decoded 202 = .ok (.ldc 73, 2) := by decide +kernel
theorem dX0_decoded_204 : decode cX0_decoded 204 = .ok (.if_icmp .ge 7, 3) := by decide +kernel
theorem dX0_decoded_207 : decode cX0_decoded 207 = .ok (.iconst (-1), 1) := by decide +kernel
theorem dX0_decoded_208 : decode cX0_decoded 208 = .ok (.goto 5, 3) := by decide +kernel
theorem dX0_decoded_211 : decode cX0_decoded 211 = .ok (.iload 5, 2) := by decide +kernel
theorem dX0_decoded_213 : decode cX0_decoded 213 = .ok (.ireturn, 1) := by decide +kernel
end
section
theorem dX4_skipBlanks_0 : decode cX4_skipBlanks 0 = .ok (.aload_n 0, 1) := by decide +kernel
theorem dX4_skipBlanks_1 : decode cX4_skipBlanks 1 = .ok (.getfield 47, 3) := by decide +kernel
theorem dX4_skipBlanks_4 : decode cX4_skipBlanks 4 = .ok (.aload_n 0, 1) := by decide +kernel
theorem dX4_skipBlanks_5 : decode cX4_skipBlanks 5 = .ok (.getfield 43, 3) := by decide +kernel
theorem dX4_skipBlanks_8 : decode cX4_skipBlanks 8 = .ok (.if_icmp .ge 26, 3) := by decide +kernel
theorem dX4_skipBlanks_11 : decode cX4_skipBlanks 11 = .ok (.aload_n 0, 1) := by decide +kernel
theorem dX4_skipBlanks_12 : decode cX4_skipBlanks 12 = .ok (.invokevirtual 89, 3) := by decide +kernel
theorem dX4_skipBlanks_15 : decode cX4_skipBlanks 15 = .ok (.invokestatic 92, 3) := by decide +kernel
theorem dX4_skipBlanks_18 : decode cX4_skipBlanks 18 = .ok (.ifCond .eq 16, 3) := by decide +kernel
theorem dX4_skipBlanks_21 : decode cX4_skipBlanks 21 = .ok (.aload_n 0, 1) := by decide +kernel
theorem dX4_skipBlanks_22 : decode cX4_skipBlanks 22 = .ok (.dup, 1) := by decide +kernel
theorem dX4_skipBlanks_23 : decode cX4_skipBlanks 23 = .ok (.getfield 47, 3) := by decide +kernel
theorem dX4_skipBlanks_26 : decode cX4_skipBlanks 26 = .ok (.iconst 1, 1) := by decide +kernel
theorem dX4_skipBlanks_27 : decode cX4_skipBlanks 27 = .ok (.iadd, 1) := by decide +kernel
theorem dX4_skipBlanks_28 : decode cX4_skipBlanks 28 = .ok (.putfield 47, 3) := by decide +kernel
theorem dX4_skipBlanks_31 : decode cX4_skipBlanks 31 = .ok (.goto (-31), 3) := by decide +kernel
theorem dX4_skipBlanks_34 : decode cX4_skipBlanks 34 = .ok (.return_, 1) := by decide +kernel
theorem dX4_addChar_0 : decode cX4_addChar 0 = .ok (.iload_n 1, 1) := by decide +kernel
theorem dX4_addChar_1 : decode cX4_addChar 1 = .ok (.ldc 161, 2) := by decide +kernel
theorem dX4_addChar_3 : decode cX4_addChar 3 = .ok (.if_icmp .lt 35, 3) := by decide +kernel
theorem dX4_addChar_6 : decode cX4_addChar 6 = .ok (.aload_n 0, 1) := by decide +kernel
theorem dX4_addChar_7 : decode cX4_addChar 7 = .ok (.ldc 162, 2) := by decide +kernel
theorem dX4_addChar_9 : decode cX4_addChar 9 = .ok (.iload_n 1, 1) := by decide +kernel
theorem dX4_addChar_10 : decode cX4_addChar 10 = .ok (.ldc 161, 2) := by decide +kernel
theorem dX4_addChar_12 : decode cX4_addChar 12 = .ok (.isub, 1) := by decide +kernel
theorem dX4_addChar_13 : decode cX4_addChar 13 = .ok (.bipush 10, 2) := by decide +kernel
theorem dX4_addChar_15 : decode cX4_addChar 15 = .ok (.ishr, 1) := by decide +kernel
theorem dX4_addChar_16 : decode cX4_addChar 16 = .ok (.iadd, 1) := by decide +kernel
theorem dX4_addChar_17 : decode cX4_addChar 17 = .ok (.invokevirtual 163, 3) := by decide +kernel
theorem dX4_addChar_20 : decode cX4_addChar 20 = .ok (.aload_n 0, 1) := by decide +kernel
theorem dX4_addChar_21 : decode cX4_addChar 21 = .ok (.ldc 166, 2) := by decide +kernel
theorem dX4_addChar_23 : decode cX4_addChar 23 = .ok (.iload_n 1, 1) := by decide +kernel
theorem dX4_addChar_24 : decode cX4_addChar 24 = .ok (.ldc 161, 2) := by decide +kernel
theorem dX4_addChar_26 : decode cX4_addChar 26 = .ok (.isub, 1) := by decide +kernel
theorem dX4_addChar_27 : decode cX4_addChar 27 = .ok (.sipush 1023, 3) := by decide +kernel
theorem dX4_addChar_30 : decode cX4_addChar 30 = .ok (.iand, 1) := by decide +kernel
theorem dX4_addChar_31 : decode cX4_addChar 31 = .ok (.iadd, 1) := by decide +kernel
theorem dX4_addChar_32 : decode cX4_addChar 32 = .ok (.invokevirtual 163, 3) := by decide +kernel
theorem dX4_addChar_35 : decode cX4_addChar 35 = .ok (.goto 8, 3) := by decide +kernel
theorem dX4_addChar_38 : decode cX4_addChar 38 = .ok (.aload_n 0, 1) := by decide +kernel
theorem dX4_addChar_39 : decode cX4_addChar 39 = .ok (.iload_n 1, 1) := by decide +kernel
theorem dX4_addChar_40 : decode cX4_addChar 40 = .ok (.invokevirtual 163, 3) := by decide +kernel
theorem dX4_addChar_43 : decode cX4_addChar 43 = .ok (.return_, 1) := by decide +kernel
theorem dX4_addUnit_0 : decode cX4_addUnit 0 = .ok (.aload_n 0, 1) := by decide +kernel
theorem dX4_addUnit_1 : decode cX4_addUnit 1 = .ok (.getfield 53, 3) := by decide +kernel
theorem dX4_addUnit_4 : decode cX4_addUnit 4 = .ok (.aload_n 0, 1) := by decide +kernel
theorem dX4_addUnit_5 : decode cX4_addUnit 5 = .ok (.getfield 30, 3) := by decide +kernel
theorem dX4_addUnit_8 : decode cX4_addUnit 8 = .ok (.arraylength, 1) := by decide +kernel
theorem dX4_addUnit_9 : decode cX4_addUnit 9 = .ok (.if_icmp .ge 23, 3) := by decide +kernel
theorem dX4_addUnit_12 : decode cX4_addUnit 12 = .ok (.aload_n 0, 1) := by decide +kernel
theorem dX4_addUnit_13 : decode cX4_addUnit 13 = .ok (.getfield 30, 3) := by decide +kernel
theorem dX4_addUnit_16 : decode cX4_addUnit 16 = .ok (.aload_n 0, 1) := by decide +kernel
theorem dX4_addUnit_17 : decode cX4_addUnit 17 = .ok (.getfield 53, 3) := by decide +kernel
theorem dX4_addUnit_20 : decode cX4_addUnit 20 = .ok (.iload_n 1, 1) := by decide +kernel
theorem dX4_addUnit_21 : decode cX4_addUnit 21 = .ok (.iastore, 1) := by decide +kernel
theorem dX4_addUnit_22 : decode cX4_addUnit 22 = .ok (.aload_n 0, 1) := by decide +kernel
theorem dX4_addUnit_23 : decode cX4_addUnit 23 = .ok (.dup, 1) := by decide +kernel
theorem dX4_addUnit_24 : decode cX4_addUnit 24 = .ok (.getfield 53, 3) := by decide +kernel
theorem dX4_addUnit_27 : decode cX4_addUnit 27 = .ok (.iconst 1, 1) := by decide +kernel
theorem dX4_addUnit_28 : decode cX4_addUnit 28 = .ok (.iadd, 1) := by decide +kernel
theorem dX4_addUnit_29 : decode cX4_addUnit 29 = .ok (.putfield 53, 3) := by decide +kernel
theorem dX4_addUnit_32 : decode cX4_addUnit 32 = .ok (.return_, 1) := by decide +kernel
end
section
theorem dX4_isColon_0 : decode cX4_isColon 0 = .ok (.aload_n 0, 1) := by decide +kernel
theorem dX4_isColon_1 : decode cX4_isColon 1 = .ok (.invokevirtual 56, 3) := by decide +kernel
theorem dX4_isColon_4 : decode cX4_isColon 4 = .ok (.aload_n 0, 1) := by decide +kernel
theorem dX4_isColon_5 : decode cX4_isColon 5 = .ok (.invokevirtual 89, 3) := by decide +kernel
theorem dX4_isColon_8 : decode cX4_isColon 8 = .ok (.bipush 58, 2) := by decide +kernel
theorem dX4_isColon_10 : decode cX4_isColon 10 = .ok (.if_icmp .ne 7, 3) := by decide +kernel
theorem dX4_isColon_13 : decode cX4_isColon 13 = .ok (.iconst 1, 1) := by decide +kernel
theorem dX4_isColon_14 : decode cX4_isColon 14 = .ok (.goto 4, 3) := by decide +kernel
theorem dX4_isColon_17 : decode cX4_isColon 17 = .ok (.iconst 0, 1) := by decide +kernel
theorem dX4_isColon_18 : decode cX4_isColon 18 = .ok (.istore_n 1, 1) := by decide +kernel
theorem dX4_isColon_19 : decode cX4_isColon 19 = .ok (.aload_n 0, 1) := by decide +kernel
theorem dX4_isColon_20 : decode cX4_isColon 20 = .ok (.dup, 1) := by decide +kernel
theorem dX4_isColon_21 : decode cX4_isColon 21 = .ok (.getfield 47, 3) := by decide +kernel
theorem dX4_isColon_24 : decode cX4_isColon 24 = .ok (.iconst 1, 1) := by decide +kernel
theorem dX4_isColon_25 : decode cX4_isColon 25 = .ok (.iadd, 1) := by decide +kernel
theorem dX4_isColon_26 : decode cX4_isColon 26 = .ok (.putfield 47, 3) := by decide +kernel
theorem dX4_isColon_29 : decode cX4_isColon 29 = .ok (.aload_n 0, 1) := by decide +kernel
theorem dX4_isColon_30 : decode cX4_isColon 30 = .ok (.invokevirtual 56, 3) := by decide +kernel
theorem dX4_isColon_33 : decode cX4_isColon 33 = .ok (.iload_n 1, 1) := by decide +kernel
theorem dX4_isColon_34 : decode cX4_isColon 34 = .ok (.ireturn, 1) := by decide +kernel
theorem dX4_isWord_0 : decode cX4_isWord 0 = .ok (.iconst 0, 1) := by decide +kernel
theorem dX4_isWord_1 : decode cX4_isWord 1 = .ok (.istore_n 2, 1) := by decide +kernel
theorem dX4_isWord_2 : decode cX4_isWord 2 = .ok (.iload_n 2, 1) := by decide +kernel
theorem dX4_isWord_3 : decode cX4_isWord 3 = .ok (.aload_n 1, 1) := by decide +kernel
theorem dX4_isWord_4 : decode cX4_isWord 4 = .ok (.invokevirtual 70, 3) := by decide +kernel
theorem dX4_isWord_7 : decode cX4_isWord 7 = .ok (.if_icmp .ge 43, 3) := by decide +kernel
theorem dX4_isWord_10 : decode cX4_isWord 10 = .ok (.aload_n 0, 1) := by decide +kernel
theorem dX4_isWord_11 : decode cX4_isWord 11 = .ok (.getfield 47, 3) := by decide +kernel
theorem dX4_isWord_14 : decode cX4_isWord 14 = .ok (.iload_n 2, 1) := by decide +kernel
theorem dX4_isWord_15 : decode cX4_isWord 15 = .ok (.iadd, 1) := by decide +kernel
theorem dX4_isWord_16 : decode cX4_isWord 16 = .ok (.aload_n 0, 1) := by decide +kernel
theorem dX4_isWord_17 : decode cX4_isWord 17 = .ok (.getfield 43, 3) := by decide +kernel
theorem dX4_isWord_20 : decode cX4_isWord 20 = .ok (.if_icmp .ge 22, 3) := by decide +kernel
theorem dX4_isWord_23 : decode cX4_isWord 23 = .ok (.aload_n 0, 1) := by decide +kernel
theorem dX4_isWord_24 : decode cX4_isWord 24 = .ok (.getfield 33, 3) := by decide +kernel
theorem dX4_isWord_27 : decode cX4_isWord 27 = .ok (.aload_n 0, 1) := by decide +kernel
theorem dX4_isWord_28 : decode cX4_isWord 28 = .ok (.getfield 47, 3) := by decide +kernel
theorem dX4_isWord_31 : decode cX4_isWord 31 = .ok (.iload_n 2, 1) := by decide +kernel
theorem dX4_isWord_32 : decode cX4_isWord 32 = .ok (.iadd, 1) := by decide +kernel
theorem dX4_isWord_33 : decode cX4_isWord 33 = .ok (.baload, 1) := by decide +kernel
theorem dX4_isWord_34 : decode cX4_isWord 34 = .ok (.aload_n 1, 1) := by decide +kernel
theorem dX4_isWord_35 : decode cX4_isWord 35 = .ok (.iload_n 2, 1) := by decide +kernel
theorem dX4_isWord_36 : decode cX4_isWord 36 = .ok (.invokevirtual 76, 3) := by decide +kernel
theorem dX4_isWord_39 : decode cX4_isWord 39 = .ok (.if_icmp .eq 5, 3) := by decide +kernel
theorem dX4_isWord_42 : decode cX4_isWord 42 = .ok (.iconst 0, 1) := by decide +kernel
theorem dX4_isWord_43 : decode cX4_isWord 43 = .ok (.ireturn, 1) := by decide +kernel
theorem dX4_isWord_44 : decode cX4_isWord 44 = .ok (.iinc 2 1, 3) := by decide +kernel
theorem dX4_isWord_47 : decode cX4_isWord 47 = .ok (.goto (-45), 3) := by decide +kernel
theorem dX4_isWord_50 : decode cX4_isWord 50 = .ok (.aload_n 0, 1) := by decide +kernel
theorem dX4_isWord_51 : decode cX4_isWord 51 = .ok (.dup, 1) := by decide +kernel
theorem dX4_isWord_52 : decode cX4_isWord 52 = .ok (.getfield 47, 3) := by decide +kernel
theorem dX4_isWord_55 : decode cX4_isWord 55 = .ok (.aload_n 1, 1) := by decide +kernel
theorem dX4_isWord_56 : decode cX4_isWord 56 = .ok (.invokevirtual 70, 3) := by decide +kernel
theorem dX4_isWord_59 : decode cX4_isWord 59 = .ok (.iadd, 1) := by decide +kernel
theorem dX4_isWord_60 : decode cX4_isWord 60 = .ok (.putfield 47, 3) := by decide +kernel
theorem dX4_isWord_63 : decode cX4_isWord 63 = .ok (.iconst 1, 1) := by decide +kernel
theorem dX4_isWord_64 : decode cX4_isWord 64 = .ok (.ireturn, 1) := by decide +kernel
theorem dX4_isString_0 : decode cX4_isString 0 = .ok (.aload_n 0, 1) := by decide +kernel
theorem dX4_isString_1 : decode cX4_isString 1 = .ok (.invokevirtual 89, 3) := by decide +kernel
theorem dX4_isString_4 : decode cX4_isString 4 = .ok (.bipush 34, 2) := by decide +kernel
theorem dX4_isString_6 : decode cX4_isString 6 = .ok (.if_icmp .eq 5, 3) := by decide +kernel
theorem dX4_isString_9 : decode cX4_isString 9 = .ok (.iconst 0, 1) := by decide +kernel
theorem dX4_isString_10 : decode cX4_isString 10 = .ok (.ireturn, 1) := by decide +kernel
theorem dX4_isString_11 : decode cX4_isString 11 = .ok (.aload_n 0, 1) := by decide +kernel
theorem dX4_isString_12 : decode cX4_isString 12 = .ok (.dup, 1) := by decide +kernel
theorem dX4_isString_13 : decode cX4_isString 13 = .ok (.getfield 47, 3) := by decide +kernel
theorem dX4_isString_16 : decode cX4_isString 16 = .ok (.iconst 1, 1) := by decide +kernel
theorem dX4_isString_17 : decode cX4_isString 17 = .ok (.iadd, 1) := by decide +kernel
theorem dX4_isString_18 : decode cX4_isString 18 = .ok (.putfield 47, 3) := by decide +kernel
theorem dX4_isString_21 : decode cX4_isString 21 = .ok (.iconst 0, 1) := by decide +kernel
theorem dX4_isString_22 : decode cX4_isString 22 = .ok (.istore_n 1, 1) := by decide +kernel
theorem dX4_isString_23 : decode cX4_isString 23 = .ok (.iload_n 1, 1) := by decide +kernel
theorem dX4_isString_24 : decode cX4_isString 24 = .ok (.aload_n 0, 1) := by decide +kernel
theorem dX4_isString_25 : decode cX4_isString 25 = .ok (.getfield 43, 3) := by decide +kernel
theorem dX4_isString_28 : decode cX4_isString 28 = .ok (.if_icmp .ge 116, 3) := by decide +kernel
theorem dX4_isString_31 : decode cX4_isString 31 = .ok (.aload_n 0, 1) := by decide +kernel
theorem dX4_isString_32 : decode cX4_isString 32 = .ok (.getfield 47, 3) := by decide +kernel
theorem dX4_isString_35 : decode cX4_isString 35 = .ok (.aload_n 0, 1) := by decide +kernel
theorem dX4_isString_36 : decode cX4_isString 36 = .ok (.getfield 43, 3) := by decide +kernel
theorem dX4_isString_39 : decode cX4_isString 39 = .ok (.if_icmp .ge 105, 3) := by decide +kernel
theorem dX4_isString_42 : decode cX4_isString 42 = .ok (.aload_n 0, 1) := by decide +kernel
theorem dX4_isString_43 : decode cX4_isString 43 = .ok (.getfield 33, 3) := by decide +kernel
theorem dX4_isString_46 : decode cX4_isString 46 = .ok (.aload_n 0, 1) := by decide +kernel
theorem dX4_isString_47 : decode cX4_isString 47 = .ok (.getfield 47, 3) := by decide +kernel
theorem dX4_isString_50 : decode cX4_isString 50 = .ok (.aload_n 0, 1) := by decide +kernel
theorem dX4_isString_51 : decode cX4_isString 51 = .ok (.getfield 43, 3) := by decide +kernel
theorem dX4_isString_54 : decode cX4_isString 54 = .ok (.invokestatic 140, 3) := by decide +kernel
theorem dX4_isString_57 : decode cX4_isString 57 = .ok (.istore_n 2, 1) := by decide +kernel
theorem dX4_isString_58 : decode cX4_isString 58 = .ok (.iload_n 2, 1) := by decide +kernel
theorem dX4_isString_59 : decode cX4_isString 59 = .ok (.bipush 34, 2) := by decide +kernel
theorem dX4_isString_61 : decode cX4_isString 61 = .ok (.if_icmp .ne 15, 3) := by decide +kernel
theorem dX4_isString_64 : decode cX4_isString 64 = .ok (.aload_n 0, 1) := by decide +kernel
theorem dX4_isString_65 : decode cX4_isString 65 = .ok (.dup, 1) := by decide +kernel
theorem dX4_isString_66 : decode cX4_isString 66 = .ok (.getfield 47, 3) := by decide +kernel
theorem dX4_isString_69 : decode cX4_isString 69 = .ok (.iconst 1, 1) := by decide +kernel
theorem dX4_isString_70 : decode cX4_isString 70 = .ok (.iadd, 1) := by decide +kernel
theorem dX4_isString_71 : decode cX4_isString 71 = .ok (.putfield 47, 3) := by decide +kernel
theorem dX4_isString_74 : decode cX4_isString 74 = .ok (.iconst 1, 1) := by decide +kernel
theorem dX4_isString_75 : decode cX4_isString 75 = .ok (.ireturn, 1) := by decide +kernel
theorem dX4_isString_76 : decode cX4_isString 76 = .ok (.iload_n 2, 1) := by decide +kernel
theorem dX4_isString_77 : decode cX4_isString 77 = .ok (.bipush 32, 2) := by decide +kernel
theorem dX4_isString_79 : decode cX4_isString 79 = .ok (.if_icmp .ge 5, 3) := by decide +kernel
theorem dX4_isString_82 : decode cX4_isString 82 = .ok (.iconst 0, 1) := by decide +kernel
theorem dX4_isString_83 : decode cX4_isString 83 = .ok (.ireturn, 1) := by decide +kernel
theorem dX4_isString_84 : decode cX4_isString 84 = .ok (.iload_n 2, 1) := by decide +kernel
theorem dX4_isString_85 : decode cX4_isString 85 = .ok (.bipush 92, 2) := by decide +kernel
theorem dX4_isString_87 : decode cX4_isString 87 = .ok (.if_icmp .ne 33, 3) := by decide +kernel
theorem dX4_isString_90 : decode cX4_isString 90 = .ok (.aload_n 0, 1) := by decide +kernel
theorem dX4_isString_91 : decode cX4_isString 91 = .ok (.ldc 146, 2) := by decide +kernel
theorem dX4_isString_93 : decode cX4_isString 93 = .ok (.invokevirtual 116, 3) := by decide +kernel
theorem dX4_isString_96 : decode cX4_isString 96 = .ok (.ifCond .eq 10, 3) := by decide +kernel
theorem dX4_isString_99 : decode cX4_isString 99 = .ok (.aload_n 0, 1) := by decide +kernel
theorem dX4_isString_100 : decode cX4_isString 100 = .ok (.invokevirtual 148, 3) := by decide +kernel
theorem dX4_isString_103 : decode cX4_isString 103 = .ok (.goto 7, 3) := by decide +kernel
theorem dX4_isString_106 : decode cX4_isString 106 = .ok (.aload_n 0, 1) := by decide +kernel
theorem dX4_isString_107 : decode cX4_isString 107 = .ok (.invokevirtual 151, 3) := by decide +kernel
theorem dX4_isString_110 : decode cX4_isString 110 = .ok (.istore_n 3, 1) := by decide +kernel
theorem dX4_isString_111 : decode cX4_isString 111 = .ok (.iload_n 3, 1) := by decide +kernel
theorem dX4_isString_112 : decode cX4_isString 112 = .ok (.ifCond .ne 5, 3) := by decide +kernel
theorem dX4_isString_115 : decode cX4_isString 115 = .ok (.iconst 0, 1) := by decide +kernel
theorem dX4_isString_116 : decode cX4_isString 116 = .ok (.ireturn, 1) := by decide +kernel
theorem dX4_isString_117 : decode cX4_isString 117 = .ok (.goto 21, 3) := by decide +kernel
theorem dX4_isString_120 : decode cX4_isString 120 = .ok (.aload_n 0, 1) := by decide +kernel
theorem dX4_isString_121 : decode cX4_isString 121 = .ok (.dup, 1) := by decide +kernel
theorem dX4_isString_122 : decode cX4_isString 122 = .ok (.getfield 47, 3) := by decide +kernel
theorem dX4_isString_125 : decode cX4_isString 125 = .ok (.iload_n 2, 1) := by decide +kernel
theorem dX4_isString_126 : decode cX4_isString 126 = .ok (.invokestatic 154, 3) := by decide +kernel
theorem dX4_isString_129 : decode cX4_isString 129 = .ok (.iadd, 1) := by decide +kernel
theorem dX4_isString_130 : decode cX4_isString 130 = .ok (.putfield 47, 3) := by decide +kernel
theorem dX4_isString_133 : decode cX4_isString 133 = .ok (.aload_n 0, 1) := by decide +kernel
theorem dX4_isString_134 : decode cX4_isString 134 = .ok (.iload_n 2, 1) := by decide +kernel
theorem dX4_isString_135 : decode cX4_isString 135 = .ok (.invokevirtual 157, 3) := by decide +kernel
theorem dX4_isString_138 : decode cX4_isString 138 = .ok (.iinc 1 1, 3) := by decide +kernel
theorem dX4_isString_141 : decode cX4_isString 141 = .ok (.goto (-118), 3) := by decide +kernel
theorem dX4_isString_144 : decode cX4_isString 144 = .ok (.iconst 0, 1) := by decide +kernel
theorem dX4_isString_145 : decode cX4_isString 145 = .ok (.ireturn, 1) := by decide +kernel
theorem dX4_isEscape_0 : decode cX4_isEscape 0 = .ok (.aload_n 0, 1) := by decide +kernel
theorem dX4_isEscape_1 : decode cX4_isEscape 1 = .ok (.dup, 1) := by decide +kernel
theorem dX4_isEscape_2 : decode cX4_isEscape 2 = .ok (.getfield 47, 3) := by decide +kernel
theorem dX4_isEscape_5 : decode cX4_isEscape 5 = .ok (.iconst 1, 1) := by decide +kernel
theorem dX4_isEscape_6 : decode cX4_isEscape 6 = .ok (.iadd, 1) := by decide +kernel
theorem dX4_isEscape_7 : decode cX4_isEscape 7 = .ok (.putfield 47, 3) := by decide +kernel
theorem dX4_isEscape_10 : decode cX4_isEscape 10 = .ok (.aload_n 0, 1) := by decide +kernel
theorem dX4_isEscape_11 : decode cX4_isEscape 11 = .ok (.invokevirtual 89, 3) := by decide +kernel
theorem dX4_isEscape_14 : decode cX4_isEscape 14 = .ok (.istore_n 1, 1) := by decide +kernel
theorem dX4_isEscape_15 : decode cX4_isEscape 15 = .ok (.aload_n 0, 1) := by decide +kernel
theorem dX4_isEscape_16 : decode cX4_isEscape 16 = .ok (.dup, 1) := by decide +kernel
theorem dX4_isEscape_17 : decode cX4_isEscape 17 = .ok (.getfield 47, 3) := by decide +kernel
theorem dX4_isEscape_20 : decode cX4_isEscape 20 = .ok (.iconst 1, 1) := by decide +kernel
theorem dX4_isEscape_21 : decode cX4_isEscape 21 = .ok (.iadd, 1) := by decide +kernel
theorem dX4_isEscape_22 : decode cX4_isEscape 22 = .ok (.putfield 47, 3) := by decide +kernel
theorem dX4_isEscape_25 : decode cX4_isEscape 25 = .ok (.iload_n 1, 1) := by decide +kernel
theorem dX4_isEscape_26 : decode cX4_isEscape 26 = .ok (.lookupswitch 121 #[(34, 74), (47, 74), (92, 74), (98, 81), (102, 89), (110, 97), (114, 105), (116, 113)], 74) := by decide +kernel
theorem dX4_isEscape_100 : decode cX4_isEscape 100 = .ok (.aload_n 0, 1) := by decide +kernel
theorem dX4_isEscape_101 : decode cX4_isEscape 101 = .ok (.iload_n 1, 1) := by decide +kernel
theorem dX4_isEscape_102 : decode cX4_isEscape 102 = .ok (.invokevirtual 163, 3) := by decide +kernel
theorem dX4_isEscape_105 : decode cX4_isEscape 105 = .ok (.iconst 1, 1) := by decide +kernel
theorem dX4_isEscape_106 : decode cX4_isEscape 106 = .ok (.ireturn, 1) := by decide +kernel
theorem dX4_isEscape_107 : decode cX4_isEscape 107 = .ok (.aload_n 0, 1) := by decide +kernel
theorem dX4_isEscape_108 : decode cX4_isEscape 108 = .ok (.bipush 8, 2) := by decide +kernel
theorem dX4_isEscape_110 : decode cX4_isEscape 110 = .ok (.invokevirtual 163, 3) := by decide +kernel
theorem dX4_isEscape_113 : decode cX4_isEscape 113 = .ok (.iconst 1, 1) := by decide +kernel
theorem dX4_isEscape_114 : decode cX4_isEscape 114 = .ok (.ireturn, 1) := by decide +kernel
theorem dX4_isEscape_115 : decode cX4_isEscape 115 = .ok (.aload_n 0, 1) := by decide +kernel
theorem dX4_isEscape_116 : decode cX4_isEscape 116 = .ok (.bipush 12, 2) := by decide +kernel
theorem dX4_isEscape_118 : decode cX4_isEscape 118 = .ok (.invokevirtual 163, 3) := by decide +kernel
theorem dX4_isEscape_121 : decode cX4_isEscape 121 = .ok (.iconst 1, 1) := by decide +kernel
theorem dX4_isEscape_122 : decode cX4_isEscape 122 = .ok (.ireturn, 1) := by decide +kernel
theorem dX4_isEscape_123 : decode cX4_isEscape 123 = .ok (.aload_n 0, 1) := by decide +kernel
theorem dX4_isEscape_124 : decode cX4_isEscape 124 = .ok (.bipush 10, 2) := by decide +kernel
theorem dX4_isEscape_126 : decode cX4_isEscape 126 = .ok (.invokevirtual 163, 3) := by decide +kernel
theorem dX4_isEscape_129 : decode cX4_isEscape 129 = .ok (.iconst 1, 1) := by decide +kernel
theorem dX4_isEscape_130 : decode cX4_isEscape 130 = .ok (.ireturn, 1) := by decide +kernel
theorem dX4_isEscape_131 : decode cX4_isEscape 131 = .ok (.aload_n 0, 1) := by decide +kernel
theorem dX4_isEscape_132 : decode cX4_isEscape 132 = .ok (.bipush 13, 2) := by decide +kernel
theorem dX4_isEscape_134 : decode cX4_isEscape 134 = .ok (.invokevirtual 163, 3) := by decide +kernel
theorem dX4_isEscape_137 : decode cX4_isEscape 137 = .ok (.iconst 1, 1) := by decide +kernel
theorem dX4_isEscape_138 : decode cX4_isEscape 138 = .ok (.ireturn, 1) := by decide +kernel
theorem dX4_isEscape_139 : decode cX4_isEscape 139 = .ok (.aload_n 0, 1) := by decide +kernel
theorem dX4_isEscape_140 : decode cX4_isEscape 140 = .ok (.bipush 9, 2) := by decide +kernel
theorem dX4_isEscape_142 : decode cX4_isEscape 142 = .ok (.invokevirtual 163, 3) := by decide +kernel
theorem dX4_isEscape_145 : decode cX4_isEscape 145 = .ok (.iconst 1, 1) := by decide +kernel
theorem dX4_isEscape_146 : decode cX4_isEscape 146 = .ok (.ireturn, 1) := by decide +kernel
theorem dX4_isEscape_147 : decode cX4_isEscape 147 = .ok (.iconst 0, 1) := by decide +kernel
theorem dX4_isEscape_148 : decode cX4_isEscape 148 = .ok (.ireturn, 1) := by decide +kernel
theorem dX4_isUnitEscape_0 : decode cX4_isUnitEscape 0 = .ok (.aload_n 0, 1) := by decide +kernel
theorem dX4_isUnitEscape_1 : decode cX4_isUnitEscape 1 = .ok (.invokevirtual 167, 3) := by decide +kernel
theorem dX4_isUnitEscape_4 : decode cX4_isUnitEscape 4 = .ok (.istore_n 1, 1) := by decide +kernel
theorem dX4_isUnitEscape_5 : decode cX4_isUnitEscape 5 = .ok (.iload_n 1, 1) := by decide +kernel
theorem dX4_isUnitEscape_6 : decode cX4_isUnitEscape 6 = .ok (.ifCond .lt 10, 3) := by decide +kernel
theorem dX4_isUnitEscape_9 : decode cX4_isUnitEscape 9 = .ok (.iload_n 1, 1) := by decide +kernel
theorem dX4_isUnitEscape_10 : decode cX4_isUnitEscape 10 = .ok (.invokestatic 170, 3) := by decide +kernel
theorem dX4_isUnitEscape_13 : decode cX4_isUnitEscape 13 = .ok (.ifCond .eq 5, 3) := by decide +kernel
theorem dX4_isUnitEscape_16 : decode cX4_isUnitEscape 16 = .ok (.iconst 0, 1) := by decide +kernel
theorem dX4_isUnitEscape_17 : decode cX4_isUnitEscape 17 = .ok (.ireturn, 1) := by decide +kernel
theorem dX4_isUnitEscape_18 : decode cX4_isUnitEscape 18 = .ok (.aload_n 0, 1) := by decide +kernel
theorem dX4_isUnitEscape_19 : decode cX4_isUnitEscape 19 = .ok (.iload_n 1, 1) := by decide +kernel
theorem dX4_isUnitEscape_20 : decode cX4_isUnitEscape 20 = .ok (.invokevirtual 163, 3) := by decide +kernel
theorem dX4_isUnitEscape_23 : decode cX4_isUnitEscape 23 = .ok (.iload_n 1, 1) := by decide +kernel
theorem dX4_isUnitEscape_24 : decode cX4_isUnitEscape 24 = .ok (.invokestatic 173, 3) := by decide +kernel
theorem dX4_isUnitEscape_27 : decode cX4_isUnitEscape 27 = .ok (.ifCond .ne 5, 3) := by decide +kernel
theorem dX4_isUnitEscape_30 : decode cX4_isUnitEscape 30 = .ok (.iconst 1, 1) := by decide +kernel
theorem dX4_isUnitEscape_31 : decode cX4_isUnitEscape 31 = .ok (.ireturn, 1) := by decide +kernel
theorem dX4_isUnitEscape_32 : decode cX4_isUnitEscape 32 = .ok (.aload_n 0, 1) := by decide +kernel
theorem dX4_isUnitEscape_33 : decode cX4_isUnitEscape 33 = .ok (.ldc 146, 2) := by decide +kernel
theorem dX4_isUnitEscape_35 : decode cX4_isUnitEscape 35 = .ok (.invokevirtual 116, 3) := by decide +kernel
theorem dX4_isUnitEscape_38 : decode cX4_isUnitEscape 38 = .ok (.ifCond .ne 5, 3) := by decide +kernel
theorem dX4_isUnitEscape_41 : decode cX4_isUnitEscape 41 = .ok (.iconst 0, 1) := by decide +kernel
theorem dX4_isUnitEscape_42 : decode cX4_isUnitEscape 42 = .ok (.ireturn, 1) := by decide +kernel
theorem dX4_isUnitEscape_43 : decode cX4_isUnitEscape 43 = .ok (.aload_n 0, 1) := by decide +kernel
theorem dX4_isUnitEscape_44 : decode cX4_isUnitEscape 44 = .ok (.invokevirtual 167, 3) := by decide +kernel
theorem dX4_isUnitEscape_47 : decode cX4_isUnitEscape 47 = .ok (.istore_n 2, 1) := by decide +kernel
theorem dX4_isUnitEscape_48 : decode cX4_isUnitEscape 48 = .ok (.aload_n 0, 1) := by decide +kernel
theorem dX4_isUnitEscape_49 : decode cX4_isUnitEscape 49 = .ok (.iload_n 2, 1) := by decide +kernel
theorem dX4_isUnitEscape_50 : decode cX4_isUnitEscape 50 = .ok (.invokevirtual 163, 3) := by decide +kernel
theorem dX4_isUnitEscape_53 : decode cX4_isUnitEscape 53 = .ok (.iload_n 2, 1) := by decide +kernel
theorem dX4_isUnitEscape_54 : decode cX4_isUnitEscape 54 = .ok (.invokestatic 170, 3) := by decide +kernel
theorem dX4_isUnitEscape_57 : decode cX4_isUnitEscape 57 = .ok (.ireturn, 1) := by decide +kernel
theorem dX4_fourDigits_0 : decode cX4_fourDigits 0 = .ok (.iconst 0, 1) := by decide +kernel
theorem dX4_fourDigits_1 : decode cX4_fourDigits 1 = .ok (.istore_n 1, 1) := by decide +kernel
theorem dX4_fourDigits_2 : decode cX4_fourDigits 2 = .ok (.iconst 0, 1) := by decide +kernel
theorem dX4_fourDigits_3 : decode cX4_fourDigits 3 = .ok (.istore_n 2, 1) := by decide +kernel
theorem dX4_fourDigits_4 : decode cX4_fourDigits 4 = .ok (.iload_n 2, 1) := by decide +kernel
theorem dX4_fourDigits_5 : decode cX4_fourDigits 5 = .ok (.iconst 4, 1) := by decide +kernel
theorem dX4_fourDigits_6 : decode cX4_fourDigits 6 = .ok (.if_icmp .ge 131, 3) := by decide +kernel
theorem dX4_fourDigits_9 : decode cX4_fourDigits 9 = .ok (.aload_n 0, 1) := by decide +kernel
theorem dX4_fourDigits_10 : decode cX4_fourDigits 10 = .ok (.getfield 47, 3) := by decide +kernel
theorem dX4_fourDigits_13 : decode cX4_fourDigits 13 = .ok (.aload_n 0, 1) := by decide +kernel
theorem dX4_fourDigits_14 : decode cX4_fourDigits 14 = .ok (.getfield 43, 3) := by decide +kernel
theorem dX4_fourDigits_17 : decode cX4_fourDigits 17 = .ok (.if_icmp .ge 15, 3) := by decide +kernel
theorem dX4_fourDigits_20 : decode cX4_fourDigits 20 = .ok (.aload_n 0, 1) := by decide +kernel
theorem dX4_fourDigits_21 : decode cX4_fourDigits 21 = .ok (.getfield 33, 3) := by decide +kernel
theorem dX4_fourDigits_24 : decode cX4_fourDigits 24 = .ok (.aload_n 0, 1) := by decide +kernel
theorem dX4_fourDigits_25 : decode cX4_fourDigits 25 = .ok (.getfield 47, 3) := by decide +kernel
theorem dX4_fourDigits_28 : decode cX4_fourDigits 28 = .ok (.baload, 1) := by decide +kernel
theorem dX4_fourDigits_29 : decode cX4_fourDigits 29 = .ok (.goto 4, 3) := by decide +kernel
theorem dX4_fourDigits_32 : decode cX4_fourDigits 32 = .ok (.iconst (-1), 1) := by decide +kernel
theorem dX4_fourDigits_33 : decode cX4_fourDigits 33 = .ok (.istore_n 3, 1) := by decide +kernel
theorem dX4_fourDigits_34 : decode cX4_fourDigits 34 = .ok (.iload_n 3, 1) := by decide +kernel
theorem dX4_fourDigits_35 : decode cX4_fourDigits 35 = .ok (.bipush 65, 2) := by decide +kernel
theorem dX4_fourDigits_37 : decode cX4_fourDigits 37 = .ok (.if_icmp .lt 16, 3) := by decide +kernel
theorem dX4_fourDigits_40 : decode cX4_fourDigits 40 = .ok (.iload_n 3, 1) := by decide +kernel
theorem dX4_fourDigits_41 : decode cX4_fourDigits 41 = .ok (.bipush 70, 2) := by decide +kernel
theorem dX4_fourDigits_43 : decode cX4_fourDigits 43 = .ok (.if_icmp .gt 10, 3) := by decide +kernel
theorem dX4_fourDigits_46 : decode cX4_fourDigits 46 = .ok (.iload_n 3, 1) := by decide +kernel
theorem dX4_fourDigits_47 : decode cX4_fourDigits 47 = .ok (.bipush 32, 2) := by decide +kernel
theorem dX4_fourDigits_49 : decode cX4_fourDigits 49 = .ok (.iadd, 1) := by decide +kernel
theorem dX4_fourDigits_50 : decode cX4_fourDigits 50 = .ok (.goto 4, 3) := by decide +kernel
theorem dX4_fourDigits_53 : decode cX4_fourDigits 53 = .ok (.iload_n 3, 1) := by decide +kernel
theorem dX4_fourDigits_54 : decode cX4_fourDigits 54 = .ok (.istore 4, 2) := by decide +kernel
theorem dX4_fourDigits_56 : decode cX4_fourDigits 56 = .ok (.iload 4, 2) := by decide +kernel
theorem dX4_fourDigits_58 : decode cX4_fourDigits 58 = .ok (.bipush 97, 2) := by decide +kernel
theorem dX4_fourDigits_60 : decode cX4_fourDigits 60 = .ok (.if_icmp .lt 14, 3) := by decide +kernel
theorem dX4_fourDigits_63 : decode cX4_fourDigits 63 = .ok (.iload 4, 2) := by decide +kernel
theorem dX4_fourDigits_65 : decode cX4_fourDigits 65 = .ok (.bipush 102, 2) := by decide +kernel
theorem dX4_fourDigits_67 : decode cX4_fourDigits 67 = .ok (.if_icmp .gt 7, 3) := by decide +kernel
theorem dX4_fourDigits_70 : decode cX4_fourDigits 70 = .ok (.iconst 1, 1) := by decide +kernel
theorem dX4_fourDigits_71 : decode cX4_fourDigits 71 = .ok (.goto 4, 3) := by decide +kernel
theorem dX4_fourDigits_74 : decode cX4_fourDigits 74 = .ok (.iconst 0, 1) := by decide +kernel
theorem dX4_fourDigits_75 : decode cX4_fourDigits 75 = .ok (.istore 5, 2) := by decide +kernel
theorem dX4_fourDigits_77 : decode cX4_fourDigits 77 = .ok (.iload 5, 2) := by decide +kernel
theorem dX4_fourDigits_79 : decode cX4_fourDigits 79 = .ok (.ifCond .ne 17, 3) := by decide +kernel
theorem dX4_fourDigits_82 : decode cX4_fourDigits 82 = .ok (.iload_n 3, 1) := by decide +kernel
theorem dX4_fourDigits_83 : decode cX4_fourDigits 83 = .ok (.bipush 48, 2) := by decide +kernel
theorem dX4_fourDigits_85 : decode cX4_fourDigits 85 = .ok (.if_icmp .lt 9, 3) := by decide +kernel
theorem dX4_fourDigits_88 : decode cX4_fourDigits 88 = .ok (.iload_n 3, 1) := by decide +kernel
theorem dX4_fourDigits_89 : decode cX4_fourDigits 89 = .ok (.bipush 57, 2) := by decide +kernel
theorem dX4_fourDigits_91 : decode cX4_fourDigits 91 = .ok (.if_icmp .le 5, 3) := by decide +kernel
theorem dX4_fourDigits_94 : decode cX4_fourDigits 94 = .ok (.iconst (-1), 1) := by decide +kernel
theorem dX4_fourDigits_95 : decode cX4_fourDigits 95 = .ok (.ireturn, 1) := by decide +kernel
theorem dX4_fourDigits_96 : decode cX4_fourDigits 96 = .ok (.iload_n 1, 1) := by decide +kernel
theorem dX4_fourDigits_97 : decode cX4_fourDigits 97 = .ok (.iconst 4, 1) := by decide +kernel
theorem dX4_fourDigits_98 : decode cX4_fourDigits 98 = .ok (.ishl, 1) := by decide +kernel
theorem dX4_fourDigits_99 : decode cX4_fourDigits 99 = .ok (.iload 5, 2) := by decide +kernel
theorem dX4_fourDigits_101 : decode cX4_fourDigits 101 = .ok (.ifCond .eq 14, 3) := by decide +kernel
theorem dX4_fourDigits_104 : decode cX4_fourDigits 104 = .ok (.iload 4, 2) := by decide +kernel
theorem dX4_fourDigits_106 : decode cX4_fourDigits 106 = .ok (.bipush 97, 2) := by decide +kernel
theorem dX4_fourDigits_108 : decode cX4_fourDigits 108 = .ok (.isub, 1) := by decide +kernel
theorem dX4_fourDigits_109 : decode cX4_fourDigits 109 = .ok (.bipush 10, 2) := by decide +kernel
theorem dX4_fourDigits_111 : decode cX4_fourDigits 111 = .ok (.iadd, 1) := by decide +kernel
theorem dX4_fourDigits_112 : decode cX4_fourDigits 112 = .ok (.goto 7, 3) := by decide +kernel
theorem dX4_fourDigits_115 : decode cX4_fourDigits 115 = .ok (.iload_n 3, 1) := by decide +kernel
theorem dX4_fourDigits_116 : decode cX4_fourDigits 116 = .ok (.bipush 48, 2) := by decide +kernel
theorem dX4_fourDigits_118 : decode cX4_fourDigits 118 = .ok (.isub, 1) := by decide +kernel
theorem dX4_fourDigits_119 : decode cX4_fourDigits 119 = .ok (.ior, 1) := by decide +kernel
theorem dX4_fourDigits_120 : decode cX4_fourDigits 120 = .ok (.istore_n 1, 1) := by decide +kernel
theorem dX4_fourDigits_121 : decode cX4_fourDigits 121 = .ok (.aload_n 0, 1) := by decide +kernel
theorem dX4_fourDigits_122 : decode cX4_fourDigits 122 = .ok (.dup, 1) := by decide +kernel
theorem dX4_fourDigits_123 : decode cX4_fourDigits 123 = .ok (.getfield 47, 3) := by decide +kernel
theorem dX4_fourDigits_126 : decode cX4_fourDigits 126 = .ok (.iconst 1, 1) := by decide +kernel
theorem dX4_fourDigits_127 : decode cX4_fourDigits 127 = .ok (.iadd, 1) := by decide +kernel
theorem dX4_fourDigits_128 : decode cX4_fourDigits 128 = .ok (.putfield 47, 3) := by decide +kernel
theorem dX4_fourDigits_131 : decode cX4_fourDigits 131 = .ok (.iinc 2 1, 3) := by decide +kernel
theorem dX4_fourDigits_134 : decode cX4_fourDigits 134 = .ok (.goto (-130), 3) := by decide +kernel
theorem dX4_fourDigits_137 : decode cX4_fourDigits 137 = .ok (.iload_n 1, 1) := by decide +kernel
theorem dX4_fourDigits_138 : decode cX4_fourDigits 138 = .ok (.ireturn, 1) := by decide +kernel
end
section
theorem dX4_value_0 : decode cX4_value 0 = .ok (.aload_n 0, 1) := by decide +kernel
theorem dX4_value_1 : decode cX4_value 1 = .ok (.invokevirtual 89, 3) := by decide +kernel
theorem dX4_value_4 : decode cX4_value 4 = .ok (.istore_n 2, 1) := by decide +kernel
theorem dX4_value_5 : decode cX4_value 5 = .ok (.iload_n 2, 1) := by decide +kernel
theorem dX4_value_6 : decode cX4_value 6 = .ok (.bipush 123, 2) := by decide +kernel
theorem dX4_value_8 : decode cX4_value 8 = .ok (.if_icmp .eq 9, 3) := by decide +kernel
theorem dX4_value_11 : decode cX4_value 11 = .ok (.iload_n 2, 1) := by decide +kernel
theorem dX4_value_12 : decode cX4_value 12 = .ok (.bipush 91, 2) := by decide +kernel
theorem dX4_value_14 : decode cX4_value 14 = .ok (.if_icmp .ne 32, 3) := by decide +kernel
theorem dX4_value_17 : decode cX4_value 17 = .ok (.iload_n 1, 1) := by decide +kernel
theorem dX4_value_18 : decode cX4_value 18 = .ok (.bipush 10, 2) := by decide +kernel
theorem dX4_value_20 : decode cX4_value 20 = .ok (.if_icmp .ge 24, 3) := by decide +kernel
theorem dX4_value_23 : decode cX4_value 23 = .ok (.aload_n 0, 1) := by decide +kernel
theorem dX4_value_24 : decode cX4_value 24 = .ok (.iload_n 1, 1) := by decide +kernel
theorem dX4_value_25 : decode cX4_value 25 = .ok (.iconst 1, 1) := by decide +kernel
theorem dX4_value_26 : decode cX4_value 26 = .ok (.iadd, 1) := by decide +kernel
theorem dX4_value_27 : decode cX4_value 27 = .ok (.iload_n 2, 1) := by decide +kernel
theorem dX4_value_28 : decode cX4_value 28 = .ok (.bipush 123, 2) := by decide +kernel
theorem dX4_value_30 : decode cX4_value 30 = .ok (.if_icmp .ne 7, 3) := by decide +kernel
theorem dX4_value_33 : decode cX4_value 33 = .ok (.iconst 1, 1) := by decide +kernel
theorem dX4_value_34 : decode cX4_value 34 = .ok (.goto 4, 3) := by decide +kernel
theorem dX4_value_37 : decode cX4_value 37 = .ok (.iconst 0, 1) := by decide +kernel
theorem dX4_value_38 : decode cX4_value 38 = .ok (.invokevirtual 96, 3) := by decide +kernel
theorem dX4_value_41 : decode cX4_value 41 = .ok (.goto 4, 3) := by decide +kernel
theorem dX4_value_44 : decode cX4_value 44 = .ok (.iconst (-1), 1) := by decide +kernel
theorem dX4_value_45 : decode cX4_value 45 = .ok (.ireturn, 1) := by decide +kernel
theorem dX4_value_46 : decode cX4_value 46 = .ok (.iload_n 2, 1) := by decide +kernel
theorem dX4_value_47 : decode cX4_value 47 = .ok (.bipush 34, 2) := by decide +kernel
theorem dX4_value_49 : decode cX4_value 49 = .ok (.if_icmp .ne 32, 3) := by decide +kernel
theorem dX4_value_52 : decode cX4_value 52 = .ok (.aload_n 0, 1) := by decide +kernel
theorem dX4_value_53 : decode cX4_value 53 = .ok (.getfield 53, 3) := by decide +kernel
theorem dX4_value_56 : decode cX4_value 56 = .ok (.istore_n 3, 1) := by decide +kernel
theorem dX4_value_57 : decode cX4_value 57 = .ok (.aload_n 0, 1) := by decide +kernel
theorem dX4_value_58 : decode cX4_value 58 = .ok (.invokevirtual 100, 3) := by decide +kernel
theorem dX4_value_61 : decode cX4_value 61 = .ok (.ifCond .eq 18, 3) := by decide +kernel
theorem dX4_value_64 : decode cX4_value 64 = .ok (.aload_n 0, 1) := by decide +kernel
theorem dX4_value_65 : decode cX4_value 65 = .ok (.iconst 3, 1) := by decide +kernel
theorem dX4_value_66 : decode cX4_value 66 = .ok (.iload_n 3, 1) := by decide +kernel
theorem dX4_value_67 : decode cX4_value 67 = .ok (.aload_n 0, 1) := by decide +kernel
theorem dX4_value_68 : decode cX4_value 68 = .ok (.getfield 53, 3) := by decide +kernel
theorem dX4_value_71 : decode cX4_value 71 = .ok (.iload_n 3, 1) := by decide +kernel
theorem dX4_value_72 : decode cX4_value 72 = .ok (.isub, 1) := by decide +kernel
theorem dX4_value_73 : decode cX4_value 73 = .ok (.invokevirtual 104, 3) := by decide +kernel
theorem dX4_value_76 : decode cX4_value 76 = .ok (.goto 4, 3) := by decide +kernel
theorem dX4_value_79 : decode cX4_value 79 = .ok (.iconst (-1), 1) := by decide +kernel
theorem dX4_value_80 : decode cX4_value 80 = .ok (.ireturn, 1) := by decide +kernel
theorem dX4_value_81 : decode cX4_value 81 = .ok (.iload_n 2, 1) := by decide +kernel
theorem dX4_value_82 : decode cX4_value 82 = .ok (.bipush 45, 2) := by decide +kernel
theorem dX4_value_84 : decode cX4_value 84 = .ok (.if_icmp .eq 10, 3) := by decide +kernel
theorem dX4_value_87 : decode cX4_value 87 = .ok (.iload_n 2, 1) := by decide +kernel
theorem dX4_value_88 : decode cX4_value 88 = .ok (.invokestatic 108, 3) := by decide +kernel
theorem dX4_value_91 : decode cX4_value 91 = .ok (.ifCond .eq 8, 3) := by decide +kernel
theorem dX4_value_94 : decode cX4_value 94 = .ok (.aload_n 0, 1) := by decide +kernel
theorem dX4_value_95 : decode cX4_value 95 = .ok (.invokevirtual 111, 3) := by decide +kernel
theorem dX4_value_98 : decode cX4_value 98 = .ok (.ireturn, 1) := by decide +kernel
theorem dX4_value_99 : decode cX4_value 99 = .ok (.aload_n 0, 1) := by decide +kernel
theorem dX4_value_100 : decode cX4_value 100 = .ok (.ldc 114, 2) := by decide +kernel
theorem dX4_value_102 : decode cX4_value 102 = .ok (.invokevirtual 116, 3) := by decide +kernel
theorem dX4_value_105 : decode cX4_value 105 = .ok (.ifCond .ne 21, 3) := by decide +kernel
theorem dX4_value_108 : decode cX4_value 108 = .ok (.aload_n 0, 1) := by decide +kernel
theorem dX4_value_109 : decode cX4_value 109 = .ok (.ldc 120, 2) := by decide +kernel
theorem dX4_value_111 : decode cX4_value 111 = .ok (.invokevirtual 116, 3) := by decide +kernel
theorem dX4_value_114 : decode cX4_value 114 = .ok (.ifCond .ne 12, 3) := by decide +kernel
theorem dX4_value_117 : decode cX4_value 117 = .ok (.aload_n 0, 1) := by decide +kernel
theorem dX4_value_118 : decode cX4_value 118 = .ok (.ldc 122, 2) := by decide +kernel
theorem dX4_value_120 : decode cX4_value 120 = .ok (.invokevirtual 116, 3) := by decide +kernel
theorem dX4_value_123 : decode cX4_value 123 = .ok (.ifCond .eq 7, 3) := by decide +kernel
theorem dX4_value_126 : decode cX4_value 126 = .ok (.iconst 1, 1) := by decide +kernel
theorem dX4_value_127 : decode cX4_value 127 = .ok (.goto 4, 3) := by decide +kernel
theorem dX4_value_130 : decode cX4_value 130 = .ok (.iconst 0, 1) := by decide +kernel
theorem dX4_value_131 : decode cX4_value 131 = .ok (.istore_n 3, 1) := by decide +kernel
theorem dX4_value_132 : decode cX4_value 132 = .ok (.iload_n 3, 1) := by decide +kernel
theorem dX4_value_133 : decode cX4_value 133 = .ok (.ifCond .eq 13, 3) := by decide +kernel
theorem dX4_value_136 : decode cX4_value 136 = .ok (.aload_n 0, 1) := by decide +kernel
theorem dX4_value_137 : decode cX4_value 137 = .ok (.iconst 5, 1) := by decide +kernel
theorem dX4_value_138 : decode cX4_value 138 = .ok (.iconst 0, 1) := by decide +kernel
theorem dX4_value_139 : decode cX4_value 139 = .ok (.iconst 0, 1) := by decide +kernel
theorem dX4_value_140 : decode cX4_value 140 = .ok (.invokevirtual 104, 3) := by decide +kernel
theorem dX4_value_143 : decode cX4_value 143 = .ok (.goto 4, 3) := by decide +kernel
theorem dX4_value_146 : decode cX4_value 146 = .ok (.iconst (-1), 1) := by decide +kernel
theorem dX4_value_147 : decode cX4_value 147 = .ok (.ireturn, 1) := by decide +kernel
theorem dX4_holder_0 : decode cX4_holder 0 = .ok (.aload_n 0, 1) := by decide +kernel
theorem dX4_holder_1 : decode cX4_holder 1 = .ok (.iload_n 2, 1) := by decide +kernel
theorem dX4_holder_2 : decode cX4_holder 2 = .ok (.ifCond .eq 7, 3) := by decide +kernel
theorem dX4_holder_5 : decode cX4_holder 5 = .ok (.iconst 1, 1) := by decide +kernel
theorem dX4_holder_6 : decode cX4_holder 6 = .ok (.goto 4, 3) := by decide +kernel
theorem dX4_holder_9 : decode cX4_holder 9 = .ok (.iconst 2, 1) := by decide +kernel
theorem dX4_holder_10 : decode cX4_holder 10 = .ok (.iconst (-1), 1) := by decide +kernel
theorem dX4_holder_11 : decode cX4_holder 11 = .ok (.iconst 0, 1) := by decide +kernel
theorem dX4_holder_12 : decode cX4_holder 12 = .ok (.invokevirtual 104, 3) := by decide +kernel
theorem dX4_holder_15 : decode cX4_holder 15 = .ok (.istore_n 3, 1) := by decide +kernel
theorem dX4_holder_16 : decode cX4_holder 16 = .ok (.iload_n 2, 1) := by decide +kernel
theorem dX4_holder_17 : decode cX4_holder 17 = .ok (.ifCond .eq 8, 3) := by decide +kernel
theorem dX4_holder_20 : decode cX4_holder 20 = .ok (.bipush 125, 2) := by decide +kernel
theorem dX4_holder_22 : decode cX4_holder 22 = .ok (.goto 5, 3) := by decide +kernel
theorem dX4_holder_25 : decode cX4_holder 25 = .ok (.bipush 93, 2) := by decide +kernel
theorem dX4_holder_27 : decode cX4_holder 27 = .ok (.istore 4, 2) := by decide +kernel
theorem dX4_holder_29 : decode cX4_holder 29 = .ok (.aload_n 0, 1) := by decide +kernel
theorem dX4_holder_30 : decode cX4_holder 30 = .ok (.dup, 1) := by decide +kernel
theorem dX4_holder_31 : decode cX4_holder 31 = .ok (.getfield 47, 3) := by decide +kernel
theorem dX4_holder_34 : decode cX4_holder 34 = .ok (.iconst 1, 1) := by decide +kernel
theorem dX4_holder_35 : decode cX4_holder 35 = .ok (.iadd, 1) := by decide +kernel
theorem dX4_holder_36 : decode cX4_holder 36 = .ok (.putfield 47, 3) := by decide +kernel
theorem dX4_holder_39 : decode cX4_holder 39 = .ok (.aload_n 0, 1) := by decide +kernel
theorem dX4_holder_40 : decode cX4_holder 40 = .ok (.invokevirtual 56, 3) := by decide +kernel
theorem dX4_holder_43 : decode cX4_holder 43 = .ok (.aload_n 0, 1) := by decide +kernel
theorem dX4_holder_44 : decode cX4_holder 44 = .ok (.invokevirtual 89, 3) := by decide +kernel
theorem dX4_holder_47 : decode cX4_holder 47 = .ok (.iload 4, 2) := by decide +kernel
theorem dX4_holder_49 : decode cX4_holder 49 = .ok (.if_icmp .ne 15, 3) := by decide +kernel
theorem dX4_holder_52 : decode cX4_holder 52 = .ok (.aload_n 0, 1) := by decide +kernel
theorem dX4_holder_53 : decode cX4_holder 53 = .ok (.dup, 1) := by decide +kernel
theorem dX4_holder_54 : decode cX4_holder 54 = .ok (.getfield 47, 3) := by decide +kernel
theorem dX4_holder_57 : decode cX4_holder 57 = .ok (.iconst 1, 1) := by decide +kernel
theorem dX4_holder_58 : decode cX4_holder 58 = .ok (.iadd, 1) := by decide +kernel
theorem dX4_holder_59 : decode cX4_holder 59 = .ok (.putfield 47, 3) := by decide +kernel
theorem dX4_holder_62 : decode cX4_holder 62 = .ok (.iload_n 3, 1) := by decide +kernel
theorem dX4_holder_63 : decode cX4_holder 63 = .ok (.ireturn, 1) := by decide +kernel
theorem dX4_holder_64 : decode cX4_holder 64 = .ok (.iconst (-1), 1) := by decide +kernel
theorem dX4_holder_65 : decode cX4_holder 65 = .ok (.istore 5, 2) := by decide +kernel
theorem dX4_holder_67 : decode cX4_holder 67 = .ok (.iconst 0, 1) := by decide +kernel
theorem dX4_holder_68 : decode cX4_holder 68 = .ok (.istore 6, 2) := by decide +kernel
theorem dX4_holder_70 : decode cX4_holder 70 = .ok (.iload 6, 2) := by decide +kernel
theorem dX4_holder_72 : decode cX4_holder 72 = .ok (.sipush 1502, 3) := by decide +kernel
theorem dX4_holder_75 : decode cX4_holder 75 = .ok (.if_icmp .ge 169, 3) := by decide +kernel
theorem dX4_holder_78 : decode cX4_holder 78 = .ok (.iload_n 3, 1) := by decide +kernel
theorem dX4_holder_79 : decode cX4_holder 79 = .ok (.ifCond .lt 165, 3) := by decide +kernel
theorem dX4_holder_82 : decode cX4_holder 82 = .ok (.aload_n 0, 1) := by decide +kernel
theorem dX4_holder_83 : decode cX4_holder 83 = .ok (.getfield 53, 3) := by decide +kernel
theorem dX4_holder_86 : decode cX4_holder 86 = .ok (.istore 7, 2) := by decide +kernel
theorem dX4_holder_88 : decode cX4_holder 88 = .ok (.iload_n 2, 1) := by decide +kernel
theorem dX4_holder_89 : decode cX4_holder 89 = .ok (.ifCond .eq 12, 3) := by decide +kernel
theorem dX4_holder_92 : decode cX4_holder 92 = .ok (.aload_n 0, 1) := by decide +kernel
theorem dX4_holder_93 : decode cX4_holder 93 = .ok (.invokevirtual 100, 3) := by decide +kernel
theorem dX4_holder_96 : decode cX4_holder 96 = .ok (.ifCond .ne 5, 3) := by decide +kernel
theorem dX4_holder_99 : decode cX4_holder 99 = .ok (.iconst (-1), 1) := by decide +kernel
theorem dX4_holder_100 : decode cX4_holder 100 = .ok (.ireturn, 1) := by decide +kernel
theorem dX4_holder_101 : decode cX4_holder 101 = .ok (.aload_n 0, 1) := by decide +kernel
theorem dX4_holder_102 : decode cX4_holder 102 = .ok (.getfield 53, 3) := by decide +kernel
theorem dX4_holder_105 : decode cX4_holder 105 = .ok (.iload 7, 2) := by decide +kernel
theorem dX4_holder_107 : decode cX4_holder 107 = .ok (.isub, 1) := by decide +kernel
theorem dX4_holder_108 : decode cX4_holder 108 = .ok (.istore 8, 2) := by decide +kernel
theorem dX4_holder_110 : decode cX4_holder 110 = .ok (.iload_n 2, 1) := by decide +kernel
theorem dX4_holder_111 : decode cX4_holder 111 = .ok (.ifCond .eq 12, 3) := by decide +kernel
theorem dX4_holder_114 : decode cX4_holder 114 = .ok (.aload_n 0, 1) := by decide +kernel
theorem dX4_holder_115 : decode cX4_holder 115 = .ok (.invokevirtual 124, 3) := by decide +kernel
theorem dX4_holder_118 : decode cX4_holder 118 = .ok (.ifCond .ne 5, 3) := by decide +kernel
theorem dX4_holder_121 : decode cX4_holder 121 = .ok (.iconst (-1), 1) := by decide +kernel
theorem dX4_holder_122 : decode cX4_holder 122 = .ok (.ireturn, 1) := by decide +kernel
theorem dX4_holder_123 : decode cX4_holder 123 = .ok (.aload_n 0, 1) := by decide +kernel
theorem dX4_holder_124 : decode cX4_holder 124 = .ok (.iload_n 1, 1) := by decide +kernel
theorem dX4_holder_125 : decode cX4_holder 125 = .ok (.invokevirtual 59, 3) := by decide +kernel
theorem dX4_holder_128 : decode cX4_holder 128 = .ok (.istore 9, 2) := by decide +kernel
theorem dX4_holder_130 : decode cX4_holder 130 = .ok (.iload 9, 2) := by decide +kernel
theorem dX4_holder_132 : decode cX4_holder 132 = .ok (.ifCond .ge 5, 3) := by decide +kernel
theorem dX4_holder_135 : decode cX4_holder 135 = .ok (.iconst (-1), 1) := by decide +kernel
theorem dX4_holder_136 : decode cX4_holder 136 = .ok (.ireturn, 1) := by decide +kernel
theorem dX4_holder_137 : decode cX4_holder 137 = .ok (.aload_n 0, 1) := by decide +kernel
theorem dX4_holder_138 : decode cX4_holder 138 = .ok (.getfield 24, 3) := by decide +kernel
theorem dX4_holder_141 : decode cX4_holder 141 = .ok (.iload 9, 2) := by decide +kernel
theorem dX4_holder_143 : decode cX4_holder 143 = .ok (.iload 7, 2) := by decide +kernel
theorem dX4_holder_145 : decode cX4_holder 145 = .ok (.iastore, 1) := by decide +kernel
theorem dX4_holder_146 : decode cX4_holder 146 = .ok (.aload_n 0, 1) := by decide +kernel
theorem dX4_holder_147 : decode cX4_holder 147 = .ok (.getfield 27, 3) := by decide +kernel
theorem dX4_holder_150 : decode cX4_holder 150 = .ok (.iload 9, 2) := by decide +kernel
theorem dX4_holder_152 : decode cX4_holder 152 = .ok (.iload 8, 2) := by decide +kernel
theorem dX4_holder_154 : decode cX4_holder 154 = .ok (.iastore, 1) := by decide +kernel
theorem dX4_holder_155 : decode cX4_holder 155 = .ok (.iload 5, 2) := by decide +kernel
theorem dX4_holder_157 : decode cX4_holder 157 = .ok (.ifCond .ge 14, 3) := by decide +kernel
theorem dX4_holder_160 : decode cX4_holder 160 = .ok (.aload_n 0, 1) := by decide +kernel
theorem dX4_holder_161 : decode cX4_holder 161 = .ok (.getfield 15, 3) := by decide +kernel
theorem dX4_holder_164 : decode cX4_holder 164 = .ok (.iload_n 3, 1) := by decide +kernel
theorem dX4_holder_165 : decode cX4_holder 165 = .ok (.iload 9, 2) := by decide +kernel
theorem dX4_holder_167 : decode cX4_holder 167 = .ok (.iastore, 1) := by decide +kernel
theorem dX4_holder_168 : decode cX4_holder 168 = .ok (.goto 12, 3) := by decide +kernel
theorem dX4_holder_171 : decode cX4_holder 171 = .ok (.aload_n 0, 1) := by decide +kernel
theorem dX4_holder_172 : decode cX4_holder 172 = .ok (.getfield 21, 3) := by decide +kernel
theorem dX4_holder_175 : decode cX4_holder 175 = .ok (.iload 5, 2) := by decide +kernel
theorem dX4_holder_177 : decode cX4_holder 177 = .ok (.iload 9, 2) := by decide +kernel
theorem dX4_holder_179 : decode cX4_holder 179 = .ok (.iastore, 1) := by decide +kernel
theorem dX4_holder_180 : decode cX4_holder 180 = .ok (.iload 9, 2) := by decide +kernel
theorem dX4_holder_182 : decode cX4_holder 182 = .ok (.istore 5, 2) := by decide +kernel
theorem dX4_holder_184 : decode cX4_holder 184 = .ok (.aload_n 0, 1) := by decide +kernel
theorem dX4_holder_185 : decode cX4_holder 185 = .ok (.getfield 18, 3) := by decide +kernel
theorem dX4_holder_188 : decode cX4_holder 188 = .ok (.iload_n 3, 1) := by decide +kernel
theorem dX4_holder_189 : decode cX4_holder 189 = .ok (.dup2, 1) := by decide +kernel
theorem dX4_holder_190 : decode cX4_holder 190 = .ok (.iaload, 1) := by decide +kernel
theorem dX4_holder_191 : decode cX4_holder 191 = .ok (.iconst 1, 1) := by decide +kernel
theorem dX4_holder_192 : decode cX4_holder 192 = .ok (.iadd, 1) := by decide +kernel
theorem dX4_holder_193 : decode cX4_holder 193 = .ok (.iastore, 1) := by decide +kernel
theorem dX4_holder_194 : decode cX4_holder 194 = .ok (.aload_n 0, 1) := by decide +kernel
theorem dX4_holder_195 : decode cX4_holder 195 = .ok (.invokevirtual 56, 3) := by decide +kernel
theorem dX4_holder_198 : decode cX4_holder 198 = .ok (.aload_n 0, 1) := by decide +kernel
theorem dX4_holder_199 : decode cX4_holder 199 = .ok (.invokevirtual 89, 3) := by decide +kernel
theorem dX4_holder_202 : decode cX4_holder 202 = .ok (.istore 10, 2) := by decide +kernel
theorem dX4_holder_204 : decode cX4_holder 204 = .ok (.aload_n 0, 1) := by decide +kernel
theorem dX4_holder_205 : decode cX4_holder 205 = .ok (.dup, 1) := by decide +kernel
theorem dX4_holder_206 : decode cX4_holder 206 = .ok (.getfield 47, 3) := by decide +kernel
theorem dX4_holder_209 : decode cX4_holder 209 = .ok (.iconst 1, 1) := by decide +kernel
theorem dX4_holder_210 : decode cX4_holder 210 = .ok (.iadd, 1) := by decide +kernel
theorem dX4_holder_211 : decode cX4_holder 211 = .ok (.putfield 47, 3) := by decide +kernel
theorem dX4_holder_214 : decode cX4_holder 214 = .ok (.iload 10, 2) := by decide +kernel
theorem dX4_holder_216 : decode cX4_holder 216 = .ok (.bipush 44, 2) := by decide +kernel
theorem dX4_holder_218 : decode cX4_holder 218 = .ok (.if_icmp .eq 16, 3) := by decide +kernel
theorem dX4_holder_221 : decode cX4_holder 221 = .ok (.iload 10, 2) := by decide +kernel
theorem dX4_holder_223 : decode cX4_holder 223 = .ok (.iload 4, 2) := by decide +kernel
theorem dX4_holder_225 : decode cX4_holder 225 = .ok (.if_icmp .ne 7, 3) := by decide +kernel
theorem dX4_holder_228 : decode cX4_holder 228 = .ok (.iload_n 3, 1) := by decide +kernel
theorem dX4_holder_229 : decode cX4_holder 229 = .ok (.goto 4, 3) := by decide +kernel
theorem dX4_holder_232 : decode cX4_holder 232 = .ok (.iconst (-1), 1) := by decide +kernel
theorem dX4_holder_233 : decode cX4_holder 233 = .ok (.ireturn, 1) := by decide +kernel
theorem dX4_holder_234 : decode cX4_holder 234 = .ok (.aload_n 0, 1) := by decide +kernel
theorem dX4_holder_235 : decode cX4_holder 235 = .ok (.invokevirtual 56, 3) := by decide +kernel
theorem dX4_holder_238 : decode cX4_holder 238 = .ok (.iinc 6 1, 3) := by decide +kernel
theorem dX4_holder_241 : decode cX4_holder 241 = .ok (.goto (-171), 3) := by decide +kernel
theorem dX4_holder_244 : decode cX4_holder 244 = .ok (.iconst (-1), 1) := by decide +kernel
theorem dX4_holder_245 : decode cX4_holder 245 = .ok (.ireturn, 1) := by decide +kernel
end
section
-- what reading JSON leaves: the strings and keys of the values stand apart among the units, and take bytes
theorem jDjn.sy {D : jC} {e e' : Nat} (h : jDjn D e e') : jDjn D e' e := by
  unfold jDjn at h ⊢
  omega
/-- the first and the size of a value that is no string are written -/
theorem jJr.fz {C D D' : jC} {pv pu qv qu h : Int} (g : jJr C pv pu D qv qu) (hp : pv ≤ h) (hk : jSo D.1 h ≠ 3) (ho : ∀ i : Int, 0 ≤ i → i < qv → i ≠ h → jE5 D D' i) (h1 : jSo D'.1 h = jSo D.1 h) (h2 : jSo D'.2.2.2.1 h = jSo D.2.2.2.1 h) (h3 : jSo D'.2.2.2.2 h = jSo D.2.2.2.2 h) : jJr C pv pu D' qv qu := by
  obtain ⟨g1, g2, g3, g4⟩ := g
  have kl : ∀ e : Nat, (e : Int) < 2 * qv → jln D' e = jln D e ∧ jlo D' e = jlo D e := fun e he => by
    by_cases q : ((e / 2 : Nat) : Int) = h
    · unfold jln jlo
      rw [q, h1, h3, h2]
      by_cases q2 : e % 2 = 0
      · rw [if_pos q2, if_pos q2, if_pos q2, if_pos q2, if_neg hk, if_neg hk, if_neg hk, if_neg hk]
        exact ⟨rfl, rfl⟩
      · rw [if_neg q2, if_neg q2, if_neg q2, if_neg q2]
        exact ⟨rfl, rfl⟩
    · have := ho _ (by omega) (by omega) q
      exact ⟨this.ln, this.lo⟩
  refine ⟨g1, fun i a b => ?_, fun e a b => ?_, fun e e' a b c d ne => ?_⟩
  · obtain ⟨x1, x2, x3, x4, x5⟩ := g2 i a b
    obtain ⟨y1, y2, y3, y4, y5⟩ := ho i a (by omega) (by omega)
    exact ⟨y1.trans x1, y2.trans x2, y3.trans x3, y4.trans x4, y5.trans x5⟩
  · have x := kl e b
    have y := g3 e a b
    omega
  · have x := kl e b
    have x' := kl e' d
    have y := g4 e e' a b c d ne
    unfold jDjn at y ⊢
    omega
/-- the key of a value that was read behind it -/
theorem jJr.key {C D E E' : jC} {pv pu wv wu u1 qv qu r : Int} (h : jJr C pv pu D wv wu) (hu : wu ≤ u1) (g : jJr D wv u1 E qv qu) (hr : wv ≤ r) (ho : ∀ i : Int, 0 ≤ i → i < qv → i ≠ r → jE5 E E' i) (h1 : jSo E'.1 r = jSo E.1 r) (h2 : jSo E'.2.1 r = jSo E.2.1 r) (h3 : jSo E'.2.2.1 r = jSo E.2.2.1 r) (h4 : jSo E'.2.2.2.1 r = wu) (h5 : jSo E'.2.2.2.2 r = u1 - wu) : jJr C pv pu E' qv qu := by
  have t := (h.up hu).tr g
  obtain ⟨t1, t2, t3, t4⟩ := t
  obtain ⟨a1, a2, a3, a4⟩ := h
  obtain ⟨b1, b2, b3, b4⟩ := g
  have kl : ∀ e : Nat, (e : Int) < 2 * qv → (e : Int) ≠ 2 * r + 1 → jln E' e = jln E e ∧ jlo E' e = jlo E e := fun e he hn => by
    by_cases q : ((e / 2 : Nat) : Int) = r
    · have q2 : e % 2 = 0 := by omega
      unfold jln jlo
      rw [q, h1, h2, h3, if_pos q2, if_pos q2, if_pos q2, if_pos q2]
      exact ⟨rfl, rfl⟩
    · have := ho _ (by omega) (by omega) q
      exact ⟨this.ln, this.lo⟩
  have kr : ∀ e : Nat, (e : Int) = 2 * r + 1 → jln E' e = u1 - wu ∧ jlo E' e = wu := fun e he => by
    unfold jln jlo
    rw [if_neg (by omega), if_neg (by omega), show ((e / 2 : Nat) : Int) = r by omega]
    exact ⟨h5, h4⟩
  have kd : ∀ e e' : Nat, (e : Int) = 2 * r + 1 → 2 * pv ≤ e' → (e' : Int) < 2 * qv → e ≠ e' → jDjn E' e e' := fun e e' he c d ne => by
    obtain ⟨x1, x2⟩ := kr e he
    obtain ⟨y1, y2⟩ := kl e' d (by omega)
    unfold jDjn
    by_cases q : (e' : Int) < 2 * wv
    · have z := b2 ((e' / 2 : Nat) : Int) (by omega) (by omega)
      have w := a3 e' c q
      rw [y1, y2, z.ln, z.lo]
      omega
    · have w := b3 e' (by omega) d
      omega
  refine ⟨t1, fun i a b => ?_, fun e a b => ?_, fun e e' a b c d ne => ?_⟩
  · obtain ⟨x1, x2, x3, x4, x5⟩ := t2 i a b
    obtain ⟨y1, y2, y3, y4, y5⟩ := ho i a (by omega) (by omega)
    exact ⟨y1.trans x1, y2.trans x2, y3.trans x3, y4.trans x4, y5.trans x5⟩
  · by_cases q : (e : Int) = 2 * r + 1
    · obtain ⟨x1, x2⟩ := kr e q
      omega
    · obtain ⟨x1, x2⟩ := kl e b q
      have := t3 e a b
      omega
  · by_cases q : (e : Int) = 2 * r + 1
    · exact kd e e' q c d ne
    · by_cases q' : (e' : Int) = 2 * r + 1
      · exact (kd e' e q' a b (fun x => ne x.symm)).sy
      · obtain ⟨x1, x2⟩ := kl e b q
        obtain ⟨y1, y2⟩ := kl e' d q'
        have := t4 e e' a b c d ne
        unfold jDjn at this ⊢
        omega
theorem jHv.add {C D : jC} {pv pu pt wv wu wt l x wu' wt' x' : Int} (h : jHv C pv pu pt D wv wu wt l x) (ha : wu' - wu + x' - x ≤ wt' - wt) : jHv C pv pu pt D wv wu' wt' l x' := by
  rcases h with h | ⟨h1, h2, h3, h4, h5⟩
  · exact Or.inl h
  · exact Or.inr ⟨h1, h2, h3, h4, by omega⟩
theorem jHs {C D E : jC} {k1 i1 z1 a1 s1 : Nat → Int32} {pv pu pt wv w0 u1 t2 l x qv qu qt r t : Int} (h1 : jJr C pv pu D wv w0) (h2 : jHv C pv pu pt D wv u1 t2 l x) (hu : w0 ≤ u1) (hx : x = 3 ∨ (x = 0 ∧ u1 = w0)) (g : jVr D wv u1 t2 E qv qu qt r) (hr : 0 ≤ r) (hl : 0 ≤ l) (hq : qv ≤ 1502)
    (hk : k1 = E.1) (ha : jSo a1 r = w0) (hao : ∀ j, j < 1502 → j ≠ r.toNat → a1 j = E.2.2.2.1 j) (hs : jSo s1 r = u1 - w0) (hso : ∀ j, j < 1502 → j ≠ r.toNat → s1 j = E.2.2.2.2 j)
    (hio : ∀ j, j < 1502 → j ≠ l.toNat → i1 j = E.2.1 j) (hzo : ∀ j, j < 1502 → j ≠ l.toNat → z1 j = E.2.2.1 j) (ht : qt + 1 ≤ t) : jJr C pv pu (k1, i1, z1, a1, s1) qv qu ∧ jHv C pv pu pt (k1, i1, z1, a1, s1) qv qu t l 0 := by
  obtain ⟨g1, g2⟩ := g
  rcases g2 with g2 | ⟨r1, r2, r3, r4⟩
  · omega
  rcases h2 with h2 | ⟨b1, b2, b3, b4, b5⟩
  · omega
  rw [b1] at hio hzo
  have p0 := h1.1
  have w1 := g1.1
  have k5 := g1.2.1 pv (by omega) b2
  have m1 : jJr C pv pu (E.1, E.2.1, E.2.2.1, a1, s1) qv qu := jJr.key h1 hu g1 r1 (fun i i0 i1 ne => ⟨rfl, rfl, rfl, jst hao i i0 (by omega) hr ne, jst hso i i0 (by omega) hr ne⟩) rfl rfl rfl ha hs
  have m2 : jJr C pv pu (k1, i1, z1, a1, s1) qv qu := jJr.fz (h := pv) m1 (Int.le_refl _) (by show jSo E.1 pv ≠ 3; rw [k5.1]; exact b3) (fun i i0 _ ne => ⟨by show jSo k1 i = jSo E.1 i; rw [hk], jst hio i i0 (by omega) (by omega) ne, jst hzo i i0 (by omega) (by omega) ne, rfl, rfl⟩) (by show jSo k1 pv = jSo E.1 pv; rw [hk]) rfl rfl
  refine ⟨m2, Or.inr ⟨b1, by omega, by show jSo k1 pv ≠ 3; rw [hk, k5.1]; exact b3, ?_, ?_⟩⟩
  · show jSo s1 pv = 0
    rw [jst hso pv (by omega) (by omega) hr (by omega), k5.2.2.2.2]
    exact b4
  · have s2 := jSb.put (f := E.2.2.2.2) (g := s1) r.toNat 1502 hso (by have := r3; unfold jSo at this; exact this) qv.toNat (by omega)
    have s3 : (s1 r.toNat).toInt = u1 - w0 := by have := hs; unfold jSo at this; exact this
    rw [s3] at s2
    show qu - pu + 0 + (jSb s1 qv.toNat - jSb C.2.2.2.2 pv.toNat) ≤ t - pt + 1
    rcases hx with hx | ⟨hx, hy⟩
    · by_cases q : 1 ≤ u1 - w0 ∧ r.toNat < qv.toNat
      · rw [if_pos q] at s2; omega
      · rw [if_neg q] at s2; omega
    · rw [if_neg (by omega : ¬ (1 ≤ u1 - w0 ∧ r.toNat < qv.toNat))] at s2
      omega
end
section
-- p11: bits; the tape on both sides; bytes read as UTF-8; the text that comes of them
theorem jb_c0 : ∀ n : Nat, n < 256 → (((nI n) &&& 192).toInt = 128 ↔ (128 ≤ n ∧ n ≤ 191)) := by decide +kernel
theorem jb_a192 {x z : Int32} (e : z = x &&& 192) (h0 : 0 ≤ x.toInt) (h1 : x.toInt < 256) : (z.toInt = 128 ∧ 128 ≤ x.toInt ∧ x.toInt ≤ 191) ∨ (z.toInt ≠ 128 ∧ (x.toInt < 128 ∨ 191 < x.toInt)) := by
  obtain ⟨n, hn, ex, ex2⟩ := jN_of h0
  have h := jb_c0 n (by omega)
  rw [e, ex2]
  rw [← ex] at h
  by_cases q : 128 ≤ n ∧ n ≤ 191
  · exact Or.inl ⟨h.mpr q, by omega, by omega⟩
  · exact Or.inr ⟨fun w => q (h.mp w), by omega⟩
theorem jUc.ret {b : Int → Int} {i n r : Int} (h0 : 0 ≤ b i) (h : r = jUc b i n) : r = jUc b i n ∧ -1 ≤ r ∧ r ≤ 1114111 := by
  have h1 := jUc.r (n := n) h0
  exact ⟨h, by omega, by omega⟩
section JP1
variable {p : Program} {l : Launch} {e : Env} {R : Room} {s : State} {m : MethodId} {args : Array Value} {below : List Frame} {meth : Method} {c : Code} {H : Heap} {locs : List Loc} {cells slots : Nat} {Q : State → Prop}
variable {cc : ByteArray} {pc : Nat} {ls : Array Slot} {rest : List Value} {D : va_G} {cl : List vw_C} {A : Nat → Prop} {a : Nat} {tys : List (ClassId × FieldType)}
end JP1
section JP2
variable {p : Program} {l : Launch} {e : Env} {R : Room} {s : State} {m : MethodId} {args : Array Value} {below : List Frame} {meth : Method} {c : Code} {H : Heap} {locs : List Loc} {cells slots : Nat} {Q : State → Prop}
variable {cc : ByteArray} {pc : Nat} {ls : Array Slot} {rest : List Value} {dC : Nat → ClassId} {dI : Nat → Nat → Nat} {ca : Nat → ClassId} {B : jF} {base : Nat} {G0 G : jT} {E : List (Nat × Nat)} {H0 : Heap} {zc zs : Nat} {L : List jPin} {M : List jCt} {I : List jIv} {a k n : Nat} {cA : ClassId} {tys : List (ClassId × FieldType)}
end JP2
end
section
def EX0_decodedSizeP : List (Nat × Nat) := []
set_option maxHeartbeats 4000000 in
set_option maxRecDepth 20000 in
theorem uX0_decodedSizeP (l : Launch) (dC : Nat → ClassId) (dI : Nat → Nat → Nat) (ca : Nat → ClassId) (base : Nat) (B : jF) (hB : jBok B) (hAp : jAp (dC, dI)) (G0 : jT) (H0 : Heap) (a0 : Int32) : Met l yX0_decodedSize (jw yX0_decodedSize cX0_decodedSize 1 (some .int)) ({ frames := 0, cells := 0, slots := 0, locals := 0 }) (va_Pc [.int a0] (fun U => U.heap = H0 ∧ jX B base G0 [] H0 ∧ jG dC dI ca base U ∧ jP (dC, dI) G0 H0 [] ∧ True)) (va_Qi (S := Unit) (fun r u => (r.toInt = jUz a0.toInt ∧ 1 ≤ r.toInt ∧ r.toInt ≤ 4 ∧ (a0.toInt < 65536 ∨ r.toInt = 4))) (fun u t => jRt (dC, dI) B base G0 EX0_decodedSizeP H0 [] t.heap) (jA base)) 0 0 (jA base) := by
  refine Met.ofW (cc := cX0_decodedSize) (maxL := 1) (ret := (some .int)) (by decide) rfl ?_
  intro p e s m args below meth c s₁ Bd hml hv
  obtain ⟨rfl, hH0, hX, hG, hP0, hp0⟩ := hv
  have hK := hG.1
  have hx := Bd.exec
  have hb := Bd.bytes
  have hr := Bd.returns
  have hts := atoms_spec (ws := (jw yX0_decodedSize cX0_decodedSize 1 (some .int))) Bd.pre
  have htw : ∀ w ∈ jWl, w.before _ s = true := fun w h => hts w (List.mem_cons_of_mem _ h)
  have hown : s.vm.findClass RX0 = some m.cls := findClass_of_methodNamed Bd.named
  have hlocks := Bd.notSynchronized
  obtain ⟨Q, hQ⟩ : ∃ Q, Q = MQ below (va_Qi (S := Unit) (fun r u => (r.toInt = jUz a0.toInt ∧ 1 ≤ r.toInt ∧ r.toInt ≤ 4 ∧ (a0.toInt < 65536 ∨ r.toInt = 4))) (fun u t => jRt (dC, dI) B base G0 EX0_decodedSizeP H0 [] t.heap) (jA base)) ([.int a0] : List Value).toArray s 0 0 (jA base) := ⟨_, rfl⟩
  rw [← hQ]
  have hl := lv_entry ([.int a0]) (n := 1) (Nat.le_of_ble_eq_true rfl)
  rw [lg_entry_eq]
  generalize (lg_sl ([.int a0]) ++ List.replicate (1 - (lg_sl ([.int a0])).length) Slot.unset).toArray = ls at hl ⊢
  have hl : lv_has ls 1 [(0, .int a0)] := hl
  generalize hR : (headSpec (jw yX0_decodedSize cX0_decodedSize 1 (some .int)) ({ frames := 0, cells := 0, slots := 0, locals := 0 })).room = R
  subst hH0
  have hh : jSt (dC, dI) B base G0 G0 EX0_decodedSizeP s.heap 0 0 [] [] [] s.heap [] := jSt.start hX hP0 jMc.nil jIs.nil
  clear hX hP0
  have hk0 : (0 : Int32).toInt = 0 := by decide
  have hk1 : (1 : Int32).toInt = 1 := by decide
  have hk2 : (2 : Int32).toInt = 2 := by decide
  have hk3 : (3 : Int32).toInt = 3 := by decide
  have hk4 : (4 : Int32).toInt = 4 := by decide
  have hk128 : (128 : Int32).toInt = 128 := by decide
  have hk2048 : (2048 : Int32).toInt = 2048 := by decide
  have hk65536 : (65536 : Int32).toInt = 65536 := by decide
  have hcs_60 := htw (.constant RX0 60 65536) (jWr_20 _ (List.mem_of_getElem? (i := 15) rfl))
  have hrg_a0 := jb_rng a0
  refine lv_iload_n hx hb dX0_decodedSize_0 rfl (lv_at hl 0 rfl) ?_
  refine lv_sipush (v := 128) hx hb dX0_decodedSize_1 (by decide) ?_
  refine lv_icmp_ge (tgt := 11) hx hb dX0_decodedSize_4 (by decide) (fun c_1 => ?_) (fun c_1 => ?_)
  · skip
    have c_1' : a0.toInt ≥ 128 := jb_ge (rfl) ((by decide)) c_1
    refine lv_iload_n hx hb dX0_decodedSize_11 rfl (lv_at hl 0 rfl) ?_
    refine lv_sipush (v := 2048) hx hb dX0_decodedSize_12 (by decide) ?_
    refine lv_icmp_ge (tgt := 22) hx hb dX0_decodedSize_15 (by decide) (fun c_2 => ?_) (fun c_2 => ?_)
    · skip
      have c_2' : a0.toInt ≥ 2048 := jb_ge (rfl) ((by decide)) c_2
      refine lv_iload_n hx hb dX0_decodedSize_22 rfl (lv_at hl 0 rfl) ?_
      refine lv_ldc hx hb hown hcs_60 dX0_decodedSize_23 ?_
      refine lv_icmp_ge (tgt := 32) hx hb dX0_decodedSize_25 (by decide) (fun c_3 => ?_) (fun c_3 => ?_)
      · skip
        have c_3' : a0.toInt ≥ 65536 := jb_ge (rfl) ((by decide)) c_3
        refine lv_iconst (v := 4) hx hb dX0_decodedSize_32 (by decide) ?_
        rw [hQ]
        exact W.iret (v := 4) hx hb hr (fun t ht hW => ⟨⟨4, (), rfl, by refine ⟨?_, by omega, by omega, by omega⟩; unfold jUz; first | (rw [if_pos (by omega)]; rfl) | (rw [if_neg (by omega), if_pos (by omega)]; rfl) | (rw [if_neg (by omega), if_neg (by omega), if_pos (by omega)]; rfl) | (rw [if_neg (by omega), if_neg (by omega), if_neg (by omega)]; rfl), hh.rt (M1 := []) [] rfl ht⟩, by rw [ht]; try exact hh.1.1, fun q h9 hq => by rw [ht]; try exact hh.1.2.1 q h9 hq⟩) hh.1.2.2 dX0_decodedSize_33
      · skip
        have c_3' : a0.toInt < 65536 := jb_ge_n (rfl) ((by decide)) c_3
        refine lv_iconst (v := 3) hx hb dX0_decodedSize_28 (by decide) ?_
        refine lv_goto (tgt := 33) hx hb dX0_decodedSize_29 (by decide) ?_
        rw [hQ]
        exact W.iret (v := 3) hx hb hr (fun t ht hW => ⟨⟨3, (), rfl, by refine ⟨?_, by omega, by omega, by omega⟩; unfold jUz; first | (rw [if_pos (by omega)]; rfl) | (rw [if_neg (by omega), if_pos (by omega)]; rfl) | (rw [if_neg (by omega), if_neg (by omega), if_pos (by omega)]; rfl) | (rw [if_neg (by omega), if_neg (by omega), if_neg (by omega)]; rfl), hh.rt (M1 := []) [] rfl ht⟩, by rw [ht]; try exact hh.1.1, fun q h9 hq => by rw [ht]; try exact hh.1.2.1 q h9 hq⟩) hh.1.2.2 dX0_decodedSize_33
    · skip
      have c_2' : a0.toInt < 2048 := jb_ge_n (rfl) ((by decide)) c_2
      refine lv_iconst (v := 2) hx hb dX0_decodedSize_18 (by decide) ?_
      refine lv_goto (tgt := 33) hx hb dX0_decodedSize_19 (by decide) ?_
      rw [hQ]
      exact W.iret (v := 2) hx hb hr (fun t ht hW => ⟨⟨2, (), rfl, by refine ⟨?_, by omega, by omega, by omega⟩; unfold jUz; first | (rw [if_pos (by omega)]; rfl) | (rw [if_neg (by omega), if_pos (by omega)]; rfl) | (rw [if_neg (by omega), if_neg (by omega), if_pos (by omega)]; rfl) | (rw [if_neg (by omega), if_neg (by omega), if_neg (by omega)]; rfl), hh.rt (M1 := []) [] rfl ht⟩, by rw [ht]; try exact hh.1.1, fun q h9 hq => by rw [ht]; try exact hh.1.2.1 q h9 hq⟩) hh.1.2.2 dX0_decodedSize_33
  · skip
    have c_1' : a0.toInt < 128 := jb_ge_n (rfl) ((by decide)) c_1
    refine lv_iconst (v := 1) hx hb dX0_decodedSize_7 (by decide) ?_
    refine lv_goto (tgt := 33) hx hb dX0_decodedSize_8 (by decide) ?_
    rw [hQ]
    exact W.iret (v := 1) hx hb hr (fun t ht hW => ⟨⟨1, (), rfl, by refine ⟨?_, by omega, by omega, by omega⟩; unfold jUz; first | (rw [if_pos (by omega)]; rfl) | (rw [if_neg (by omega), if_pos (by omega)]; rfl) | (rw [if_neg (by omega), if_neg (by omega), if_pos (by omega)]; rfl) | (rw [if_neg (by omega), if_neg (by omega), if_neg (by omega)]; rfl), hh.rt (M1 := []) [] rfl ht⟩, by rw [ht]; try exact hh.1.1, fun q h9 hq => by rw [ht]; try exact hh.1.2.1 q h9 hq⟩) hh.1.2.2 dX0_decodedSize_33
end
section
def EX11_isBlankP : List (Nat × Nat) := []
set_option maxHeartbeats 4000000 in
set_option maxRecDepth 20000 in
theorem uX11_isBlankP (l : Launch) (dC : Nat → ClassId) (dI : Nat → Nat → Nat) (ca : Nat → ClassId) (base : Nat) (B : jF) (hB : jBok B) (hAp : jAp (dC, dI)) (G0 : jT) (H0 : Heap) (a0 : Int32) : Met l yX11_isBlank (jw yX11_isBlank cX11_isBlank 1 (some .boolean)) ({ frames := 0, cells := 0, slots := 0, locals := 0 }) (va_Pc [.int a0] (fun U => U.heap = H0 ∧ jX B base G0 [] H0 ∧ jG dC dI ca base U ∧ jP (dC, dI) G0 H0 [] ∧ True)) (va_Qi (S := Unit) (fun r u => (r = 0 ∨ r = 1) ∧ (r.toInt = jBlk a0.toInt)) (fun u t => jRt (dC, dI) B base G0 EX11_isBlankP H0 [] t.heap) (jA base)) 0 0 (jA base) := by
  refine Met.ofW (cc := cX11_isBlank) (maxL := 1) (ret := (some .boolean)) (by decide) rfl ?_
  intro p e s m args below meth c s₁ Bd hml hv
  obtain ⟨rfl, hH0, hX, hG, hP0, hp0⟩ := hv
  have hK := hG.1
  have hx := Bd.exec
  have hb := Bd.bytes
  have hr := Bd.returns
  have hts := atoms_spec (ws := (jw yX11_isBlank cX11_isBlank 1 (some .boolean))) Bd.pre
  have htw : ∀ w ∈ jWl, w.before _ s = true := fun w h => hts w (List.mem_cons_of_mem _ h)
  have hown : s.vm.findClass RX11 = some m.cls := findClass_of_methodNamed Bd.named
  have hlocks := Bd.notSynchronized
  obtain ⟨Q, hQ⟩ : ∃ Q, Q = MQ below (va_Qi (S := Unit) (fun r u => (r = 0 ∨ r = 1) ∧ (r.toInt = jBlk a0.toInt)) (fun u t => jRt (dC, dI) B base G0 EX11_isBlankP H0 [] t.heap) (jA base)) ([.int a0] : List Value).toArray s 0 0 (jA base) := ⟨_, rfl⟩
  rw [← hQ]
  have hl := lv_entry ([.int a0]) (n := 1) (Nat.le_of_ble_eq_true rfl)
  rw [lg_entry_eq]
  generalize (lg_sl ([.int a0]) ++ List.replicate (1 - (lg_sl ([.int a0])).length) Slot.unset).toArray = ls at hl ⊢
  have hl : lv_has ls 1 [(0, .int a0)] := hl
  generalize hR : (headSpec (jw yX11_isBlank cX11_isBlank 1 (some .boolean)) ({ frames := 0, cells := 0, slots := 0, locals := 0 })).room = R
  subst hH0
  have hh : jSt (dC, dI) B base G0 G0 EX11_isBlankP s.heap 0 0 [] [] [] s.heap [] := jSt.start hX hP0 jMc.nil jIs.nil
  clear hX hP0
  have hk0 : (0 : Int32).toInt = 0 := by decide
  have hk1 : (1 : Int32).toInt = 1 := by decide
  have hk9 : (9 : Int32).toInt = 9 := by decide
  have hk10 : (10 : Int32).toInt = 10 := by decide
  have hk13 : (13 : Int32).toInt = 13 := by decide
  have hk32 : (32 : Int32).toInt = 32 := by decide
  have hrg_a0 := jb_rng a0
  refine lv_iload_n hx hb dX11_isBlank_0 rfl (lv_at hl 0 rfl) ?_
  refine lv_bipush (v := 32) hx hb dX11_isBlank_1 (by decide) ?_
  refine lv_icmp_eq (tgt := 24) hx hb dX11_isBlank_3 (by decide) (fun c_1 => ?_) (fun c_1 => ?_)
  · skip
    have c_1' : a0.toInt = 32 := jb_eq (rfl) ((by decide)) c_1
    refine lv_iconst (v := 1) hx hb dX11_isBlank_24 (by decide) ?_
    refine lv_goto (tgt := 29) hx hb dX11_isBlank_25 (by decide) ?_
    rw [hQ]
    exact W.zret (v := 1) hx hb hr (jb_nz (Or.inr rfl)) (fun t ht hW => ⟨⟨1, (), rfl, ⟨(Or.inr rfl), by unfold jBlk; first | (rw [if_pos (by omega)]; exact hk1) | (rw [if_neg (by omega)]; exact hk0)⟩, hh.rt (M1 := []) [] rfl ht⟩, by rw [ht]; try exact hh.1.1, fun q h9 hq => by rw [ht]; try exact hh.1.2.1 q h9 hq⟩) hh.1.2.2 dX11_isBlank_29
  · skip
    have c_1' : a0.toInt ≠ 32 := jb_eq_n (rfl) ((by decide)) c_1
    refine lv_iload_n hx hb dX11_isBlank_6 rfl (lv_at hl 0 rfl) ?_
    refine lv_bipush (v := 9) hx hb dX11_isBlank_7 (by decide) ?_
    refine lv_icmp_eq (tgt := 24) hx hb dX11_isBlank_9 (by decide) (fun c_2 => ?_) (fun c_2 => ?_)
    · skip
      have c_2' : a0.toInt = 9 := jb_eq (rfl) ((by decide)) c_2
      refine lv_iconst (v := 1) hx hb dX11_isBlank_24 (by decide) ?_
      refine lv_goto (tgt := 29) hx hb dX11_isBlank_25 (by decide) ?_
      rw [hQ]
      exact W.zret (v := 1) hx hb hr (jb_nz (Or.inr rfl)) (fun t ht hW => ⟨⟨1, (), rfl, ⟨(Or.inr rfl), by unfold jBlk; first | (rw [if_pos (by omega)]; exact hk1) | (rw [if_neg (by omega)]; exact hk0)⟩, hh.rt (M1 := []) [] rfl ht⟩, by rw [ht]; try exact hh.1.1, fun q h9 hq => by rw [ht]; try exact hh.1.2.1 q h9 hq⟩) hh.1.2.2 dX11_isBlank_29
    · skip
      have c_2' : a0.toInt ≠ 9 := jb_eq_n (rfl) ((by decide)) c_2
      refine lv_iload_n hx hb dX11_isBlank_12 rfl (lv_at hl 0 rfl) ?_
      refine lv_bipush (v := 10) hx hb dX11_isBlank_13 (by decide) ?_
      refine lv_icmp_eq (tgt := 24) hx hb dX11_isBlank_15 (by decide) (fun c_3 => ?_) (fun c_3 => ?_)
      · skip
        have c_3' : a0.toInt = 10 := jb_eq (rfl) ((by decide)) c_3
        refine lv_iconst (v := 1) hx hb dX11_isBlank_24 (by decide) ?_
        refine lv_goto (tgt := 29) hx hb dX11_isBlank_25 (by decide) ?_
        rw [hQ]
        exact W.zret (v := 1) hx hb hr (jb_nz (Or.inr rfl)) (fun t ht hW => ⟨⟨1, (), rfl, ⟨(Or.inr rfl), by unfold jBlk; first | (rw [if_pos (by omega)]; exact hk1) | (rw [if_neg (by omega)]; exact hk0)⟩, hh.rt (M1 := []) [] rfl ht⟩, by rw [ht]; try exact hh.1.1, fun q h9 hq => by rw [ht]; try exact hh.1.2.1 q h9 hq⟩) hh.1.2.2 dX11_isBlank_29
      · skip
        have c_3' : a0.toInt ≠ 10 := jb_eq_n (rfl) ((by decide)) c_3
        refine lv_iload_n hx hb dX11_isBlank_18 rfl (lv_at hl 0 rfl) ?_
        refine lv_bipush (v := 13) hx hb dX11_isBlank_19 (by decide) ?_
        refine lv_icmp_ne (tgt := 28) hx hb dX11_isBlank_21 (by decide) (fun c_4 => ?_) (fun c_4 => ?_)
        · skip
          have c_4' : a0.toInt ≠ 13 := jb_ne (rfl) ((by decide)) c_4
          refine lv_iconst (v := 0) hx hb dX11_isBlank_28 (by decide) ?_
          rw [hQ]
          exact W.zret (v := 0) hx hb hr (jb_nz (Or.inl rfl)) (fun t ht hW => ⟨⟨0, (), rfl, ⟨(Or.inl rfl), by unfold jBlk; first | (rw [if_pos (by omega)]; exact hk1) | (rw [if_neg (by omega)]; exact hk0)⟩, hh.rt (M1 := []) [] rfl ht⟩, by rw [ht]; try exact hh.1.1, fun q h9 hq => by rw [ht]; try exact hh.1.2.1 q h9 hq⟩) hh.1.2.2 dX11_isBlank_29
        · skip
          have c_4' : a0.toInt = 13 := jb_ne_n (rfl) ((by decide)) c_4
          refine lv_iconst (v := 1) hx hb dX11_isBlank_24 (by decide) ?_
          refine lv_goto (tgt := 29) hx hb dX11_isBlank_25 (by decide) ?_
          rw [hQ]
          exact W.zret (v := 1) hx hb hr (jb_nz (Or.inr rfl)) (fun t ht hW => ⟨⟨1, (), rfl, ⟨(Or.inr rfl), by unfold jBlk; first | (rw [if_pos (by omega)]; exact hk1) | (rw [if_neg (by omega)]; exact hk0)⟩, hh.rt (M1 := []) [] rfl ht⟩, by rw [ht]; try exact hh.1.1, fun q h9 hq => by rw [ht]; try exact hh.1.2.1 q h9 hq⟩) hh.1.2.2 dX11_isBlank_29
end
section
-- p9: what the class's methods say of JSON
theorem jjSb.hx {b : Int → Int} {e a w s d : Int} (h : jjSb b e a w) (hs : (65 ≤ w ∧ w ≤ 70 ∧ s = w + 32) ∨ ((w < 65 ∨ 70 < w) ∧ s = w)) (hd : (97 ≤ s ∧ s ≤ 102 ∧ d = s - 87) ∨ ((s < 97 ∨ 102 < s) ∧ 48 ≤ w ∧ w ≤ 57 ∧ d = w - 48)) : d = jjHx (jjK b e a) ∧ 0 ≤ d ∧ d ≤ 15 := by
  rcases h with ⟨h0, h1, h2, h3⟩ | ⟨h0, h1⟩
  · rw [jjK.y h0, ← h3]
    unfold jjHx
    rcases hs with ⟨q1, q2, q3⟩ | ⟨q1, q2⟩ <;> rcases hd with ⟨p1, p2, p3⟩ | ⟨p1, p2, p3, p4⟩
    · rw [if_neg (by omega), if_neg (by omega), if_pos (by omega)]; omega
    · omega
    · rw [if_neg (by omega), if_pos (by omega)]; omega
    · rw [if_pos (by omega)]; omega
  · omega
theorem jjW_y {b : Int → Int} {e a : Int} (h : jjW b e (jChT "\\u") 2 a = 1) : a + 1 < e ∧ b a = 92 ∧ b (a + 1) = 117 := by
  unfold jjW at h
  by_cases w : a + (0 : Nat) < e ∧ b (a + (0 : Nat)) = (jChT "\\u" 0).toInt
  · rw [← jjWf_y (k := 2) w.1 w.2 (by omega)] at h
    by_cases w2 : a + (1 : Nat) < e ∧ b (a + (1 : Nat)) = (jChT "\\u" 1).toInt
    · have e0 : (jChT "\\u" 0).toInt = 92 := by decide +kernel
      have e1 : (jChT "\\u" 1).toInt = 117 := by decide +kernel
      rw [e0, show a + ((0 : Nat) : Int) = a by omega] at w
      rw [e1, show a + ((1 : Nat) : Int) = a + 1 by omega] at w2
      exact ⟨w2.1, w.2, w2.2⟩
    · rw [jjWf_n (k := 1) (i := 1) (by
        by_cases q : a + (1 : Nat) < e
        · exact Or.inr (fun q2 => w2 ⟨q, q2⟩)
        · exact Or.inl (by omega)) (by omega)] at h
      omega
  · rw [jjWf_n (k := 2) (i := 0) (by
      by_cases q : a + (0 : Nat) < e
      · exact Or.inr (fun q2 => w ⟨q, q2⟩)
      · exact Or.inl (by omega)) (by omega)] at h
    omega
theorem jjW_u {b : Int → Int} {e a : Int} (h : a + 1 < e) (h0 : b a = 92) (h1 : b (a + 1) = 117) : jjW b e (jChT "\\u") 2 a = 1 := by
  have e0 : (jChT "\\u" 0).toInt = 92 := by decide +kernel
  have e1 : (jChT "\\u" 1).toInt = 117 := by decide +kernel
  unfold jjW
  rw [← jjWf_y (k := 2) (i := 0) (by omega) (by rw [e0, show a + ((0 : Nat) : Int) = a by omega]; exact h0) (by omega), ← jjWf_y (k := 1) (i := 1) (by omega) (by rw [e1, show a + ((1 : Nat) : Int) = a + 1 by omega]; exact h1) (by omega)]
  rfl
theorem jjW_k {b : Int → Int} {e a : Int} (h : jjW b e (jChT "\\u") 2 a ≠ 1) (ha : a < e) (h0 : b a = 92) : jjK b e (a + 1) ≠ 117 := fun w => by
  by_cases q : a + 1 < e
  · rw [jjK.y q] at w; exact h (jjW_u q h0 w)
  · rw [jjK.n (by omega)] at w; omega
section
variable {T T1 : Nat → Int → Int} {v u v1 k f z : Int} {fk fi fz fn fa fs fu gk gi gz gn ga gs gu : Nat → Int32}
end
section
variable {X : Int × Int × Int × Int × (Nat → Int → Int)} {e d r a v u a0 v0 u0 : Int} {T : Nat → Int → Int} {fk fi fz fn fa fs fu : Nat → Int32}
theorem jjQv.cap (h : jjOut e a0 v0 u0 T X) (h1 : e < a0 + d + 1) (hr : r = -1) : jjQv X e d r a v u fk fi fz fn fa fs fu := by
  refine Or.inl ⟨hr, ?_⟩
  rcases h with h | ⟨_, h, _⟩
  · exact Or.inl h
  · exact Or.inr (by omega)
end
theorem jb_or16 {x y z : Int32} (e : z = x ||| y) (q : Int) (hx : x.toInt = q * 16) (h0 : 0 ≤ q) (hq : q < 16777216) (hy : 0 ≤ y.toInt) (hy1 : y.toInt < 16) : z.toInt = q * 16 + y.toInt := by
  obtain ⟨n, hn, ex, ex2⟩ := jN_of (x := x) (by omega)
  obtain ⟨m, hm, ey, ey2⟩ := jN_of hy
  have h1 : n ||| m < 2 ^ 31 := Nat.or_lt_two_pow hn hm
  have h2 : n = q.toNat <<< 4 := by rw [Nat.shiftLeft_eq]; omega
  have h3 : q.toNat <<< 4 + m = q.toNat <<< 4 ||| m := Nat.shiftLeft_add_eq_or_of_lt (by omega) _
  rw [e, ex, ey, jN_or hn hm, nI_toInt h1, h2, ← h3, ← ey, ey2, ← h2]
  omega
section
variable {b : Int → Int} {e a v u r a1 v1 u1 z c : Int} {T T1 : Nat → Int → Int}
end
section
variable {b : Int → Int} {e a v u r qt qv qu d c : Int} {T : Nat → Int → Int} {fk fi fz fn fa fs fu : Nat → Int32} {n : Nat}
theorem jjQn.vo (h : jjQn b e a v u T r qt qv fk fi fz fn fa fs fu) (hc : c = jjK b e a) (hk : c = 45 ∨ (48 ≤ c ∧ c ≤ 57)) (h0 : 0 ≤ v) (hcap : v = 1502 → e < a + d + 1) (hu : qu = u) : jjQv (jjVal b e n a v u T) e d r qt qv qu fk fi fz fn fa fs fu := by
  subst hc hu
  have ho := jjVal.out (b := b) (e := e) n a v qu T h0
  rw [jjVal_l (by omega) (by omega)] at ho ⊢
  rcases h with ⟨h1, h2 | h2⟩ | ⟨h1, h2, h3, h4, ⟨h5, h6⟩ | ⟨h5, h6⟩⟩
  · exact jjQv.no (jjL_nn hk h2) h1
  · exact jjQv.cap ho (hcap h2) h1
  · exact jjQv.yes (jjL_ni hk h3 h5 h1 h2 h4) (by omega) h6
  · exact jjQv.yes (jjL_nx hk h3 h5 h1 h2 h4) (by omega) h6
end
/-- while the values of a list or object are read -/
def jjLm (b : Int → Int) (e : Int) (V : Int → Int → Int → (Nat → Int → Int) → Int × Int × Int × Int × (Nat → Int → Int)) (o h : Int) (k : Nat) (a v u l : Int) (fk fi fz fn fa fs fu : Nat → Int32) (X : Int × Int × Int × Int × (Nat → Int → Int)) : Prop := ∃ T : Nat → Int → Int, jjTC T v u fk fi fz fn fa fs fu ∧ jjM b e V o h k a v u T l = X
section
variable {b : Int → Int} {e o h : Int} {V : Int → Int → Int → (Nat → Int → Int) → Int × Int × Int × Int × (Nat → Int → Int)}
theorem jjM.gt (hV : ∀ (a v u : Int) (T : Nat → Int → Int), 0 ≤ v → jjOut e a v u T (V a v u T)) : ∀ (k : Nat) (a v u l : Int) (T : Nat → Int → Int), 0 ≤ v → (jjM b e V o h k a v u T l).1 < 0 ∨ a < (jjM b e V o h k a v u T l).2.1
  | 0, _, _, _, _, _, _ => Or.inl (by show (-1 : Int) < 0; omega)
  | k + 1, a, v, u, l, T, h0 => by
    rcases jjKy.fr b e o a u v T with hk0 | ⟨hk1, hk2, hk3, hk4, hk5⟩
    · exact Or.inl (by rw [jjM_0 hk0]; omega)
    · have hp : jjKy b e o a u T = (1, (jjKy b e o a u T).2.1, (jjKy b e o a u T).2.2.1, (jjKy b e o a u T).2.2.2) := by rw [← hk1]
      generalize (jjKy b e o a u T).2.1 = a1 at *
      generalize (jjKy b e o a u T).2.2.1 = u1 at *
      generalize (jjKy b e o a u T).2.2.2 = T1 at *
      rcases hV a1 v u1 T1 h0 with ho | ⟨o1, o2, o3, o4, o5, o6, o7, o8, o9⟩
      · exact Or.inl (by rw [jjM_1 hp ho]; omega)
      · have hc : V a1 v u1 T1 = (v, (V a1 v u1 T1).2.1, (V a1 v u1 T1).2.2.1, (V a1 v u1 T1).2.2.2.1, (V a1 v u1 T1).2.2.2.2) := Prod.ext o1 rfl
        generalize (V a1 v u1 T1).2.1 = a2 at *
        generalize (V a1 v u1 T1).2.2.1 = v2 at *
        generalize (V a1 v u1 T1).2.2.2.1 = u2 at *
        generalize (V a1 v u1 T1).2.2.2.2 = T2 at *
        have hq := jjSk.ge b e a2
        by_cases w : jjK b e (jjSk b e a2) = 44
        · have hw := jjSk.ge b e (jjSk b e a2 + 1)
          rw [← jjM_more (h := h) (l := l) (k := k + 1) hp hc (by omega) rfl w rfl (by omega)]
          rcases jjM.gt hV k (jjSk b e (jjSk b e a2 + 1)) v2 u2 v (jjLk T2 h l v u (u1 - u)) (by omega) with ih | ih
          · exact Or.inl ih
          · exact Or.inr (by show a < (jjM b e V o h k _ _ _ _ _).2.1; omega)
        · by_cases w2 : jjK b e (jjSk b e a2) = 93 + 32 * o
          · rw [jjM_end (h := h) (l := l) (k := k + 1) hp hc (by omega) rfl w2 (by omega)]
            exact Or.inr (by show a < jjSk b e a2 + 1; omega)
          · exact Or.inl (by rw [jjM_2 (h := h) (l := l) (k := k + 1) hp hc rfl w w2]; omega)
variable {k : Nat} {a v u l a1 u1 r r1 a2 v2 u2 q a3 d d1 qt qv qu : Int} {T T1 T2 : Nat → Int → Int} {X : Int × Int × Int × Int × (Nat → Int → Int)} {fk fi fz fn fa fs fu gk gi gz gn ga gs gu : Nat → Int32}
/-- a child that could not be read -/
theorem jjQv.child (hV : ∀ (a v u : Int) (T : Nat → Int → Int), 0 ≤ v → jjOut e a v u T (V a v u T)) (h0 : 0 ≤ v) (hx : jjQv (V a1 v u1 T1) e d1 r a2 v2 u2 gk gi gz gn ga gs gu) (hm : jjM b e V o h k a v u T l = X) (hp : jjKy b e o a u T = (1, a1, u1, T1)) (hr : r < 0) (hd : d = d1 - 1) (hr1 : r1 = -1) : jjQv X e d r1 qt qv qu fk fi fz fn fa fs fu := by
  rcases hx with ⟨_, hx⟩ | ⟨hx, _⟩
  · refine Or.inl ⟨hr1, ?_⟩
    rw [← hm]
    rcases hx with hx | hx
    · exact Or.inl (by rw [jjM_1 hp hx]; omega)
    · rcases hV a1 v u1 T1 h0 with ho | ⟨o1, o2, o3, o4, o5, o6, o7, o8, o9⟩
      · exact Or.inl (by rw [jjM_1 hp ho]; omega)
      · cases k with
        | zero => exact Or.inl (by show (-1 : Int) < 0; omega)
        | succ k =>
          have hc : V a1 v u1 T1 = (v, (V a1 v u1 T1).2.1, (V a1 v u1 T1).2.2.1, (V a1 v u1 T1).2.2.2.1, (V a1 v u1 T1).2.2.2.2) := Prod.ext o1 rfl
          generalize (V a1 v u1 T1).2.1 = b2 at *
          generalize (V a1 v u1 T1).2.2.1 = w2 at *
          generalize (V a1 v u1 T1).2.2.2.1 = y2 at *
          generalize (V a1 v u1 T1).2.2.2.2 = S2 at *
          have hq := jjSk.ge b e b2
          by_cases w : jjK b e (jjSk b e b2) = 44
          · have hw := jjSk.ge b e (jjSk b e b2 + 1)
            rw [← jjM_more (h := h) (l := l) (k := k + 1) hp hc (by omega) rfl w rfl (by omega)]
            rcases jjM.gt (b := b) (o := o) (h := h) hV k (jjSk b e (jjSk b e b2 + 1)) w2 y2 v (jjLk S2 h l v u (u1 - u)) (by omega) with ih | ih
            · exact Or.inl ih
            · exact Or.inr (by show e < (jjM b e V o h k _ _ _ _ _).2.1 + d; omega)
          · by_cases w9 : jjK b e (jjSk b e b2) = 93 + 32 * o
            · rw [jjM_end (h := h) (l := l) (k := k + 1) hp hc (by omega) rfl w9 (by omega)]
              exact Or.inr (by show e < jjSk b e b2 + 1 + d; omega)
            · exact Or.inl (by rw [jjM_2 (h := h) (l := l) (k := k + 1) hp hc rfl w w9]; omega)
  · omega
end
section
variable {b : Int → Int} {e a l1 l2 l3 l4 w w1 q : Int}
end
section
variable {b : Int → Int} {e a d w r r1 v u q v0 u0 : Int} {fk fi fz fn fa fs fu : Nat → Int32} {T0 : Nat → Int → Int}
end
end
