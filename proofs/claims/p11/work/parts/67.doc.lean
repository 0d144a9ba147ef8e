def F3 (n : Nat) (G : jT) : List (Value → Prop) := [jRk G 101 3000, jIa, jRf G 101 1500, jI 0 1500, jI 0 40, jRf G 171 40, jRf G 172 40, jRf G 101 40, jRf G 101 40, jRf G 210 40, jI 0 40, jRm G 101 1500, jRn G 11 0, jIa, jIa, jIa, jI 0 1500]
theorem dX1_decode_0 : decode cX1_decode 0 = .ok (.aload_n 0, 1) := by decide +kernel
theorem dX1_decode_1 : decode cX1_decode 1 = .ok (.iconst 0, 1) := by decide +kernel
theorem dX1_decode_2 : decode cX1_decode 2 = .ok (.putfield 42, 3) := by decide +kernel
theorem dX1_decode_5 : decode cX1_decode 5 = .ok (.iconst 0, 1) := by decide +kernel
theorem dX1_decode_6 : decode cX1_decode 6 = .ok (.istore_n 3, 1) := by decide +kernel
theorem dX1_decode_7 : decode cX1_decode 7 = .ok (.iconst 0, 1) := by decide +kernel
theorem dX1_decode_8 : decode cX1_decode 8 = .ok (.istore 4, 2) := by decide +kernel
theorem dX1_decode_10 : decode cX1_decode 10 = .ok (.iload 4, 2) := by decide +kernel
theorem dX1_decode_12 : decode cX1_decode 12 = .ok (.iload_n 2, 1) := by decide +kernel
theorem dX1_decode_13 : decode cX1_decode 13 = .ok (.if_icmp .ge 152, 3) := by decide +kernel
theorem dX1_decode_16 : decode cX1_decode 16 = .ok (.iload_n 3, 1) := by decide +kernel
theorem dX1_decode_17 : decode cX1_decode 17 = .ok (.iload_n 2, 1) := by decide +kernel
theorem dX1_decode_18 : decode cX1_decode 18 = .ok (.if_icmp .ge 147, 3) := by decide +kernel
theorem dX1_decode_21 : decode cX1_decode 21 = .ok (.aload_n 1, 1) := by decide +kernel
theorem dX1_decode_22 : decode cX1_decode 22 = .ok (.iload_n 3, 1) := by decide +kernel
theorem dX1_decode_23 : decode cX1_decode 23 = .ok (.iload_n 2, 1) := by decide +kernel
theorem dX1_decode_24 : decode cX1_decode 24 = .ok (.invokestatic 56, 3) := by decide +kernel
theorem dX1_decode_27 : decode cX1_decode 27 = .ok (.istore 5, 2) := by decide +kernel
theorem dX1_decode_29 : decode cX1_decode 29 = .ok (.iload_n 3, 1) := by decide +kernel
theorem dX1_decode_30 : decode cX1_decode 30 = .ok (.iload 5, 2) := by decide +kernel
theorem dX1_decode_32 : decode cX1_decode 32 = .ok (.ifCond .ge 7, 3) := by decide +kernel
theorem dX1_decode_35 : decode cX1_decode 35 = .ok (.iconst 1, 1) := by decide +kernel
theorem dX1_decode_36 : decode cX1_decode 36 = .ok (.goto 8, 3) := by decide +kernel
theorem dX1_decode_39 : decode cX1_decode 39 = .ok (.iload 5, 2) := by decide +kernel
theorem dX1_decode_41 : decode cX1_decode 41 = .ok (.invokestatic 62, 3) := by decide +kernel
theorem dX1_decode_44 : decode cX1_decode 44 = .ok (.iadd, 1) := by decide +kernel
theorem dX1_decode_45 : decode cX1_decode 45 = .ok (.istore_n 3, 1) := by decide +kernel
theorem dX1_decode_46 : decode cX1_decode 46 = .ok (.iload 5, 2) := by decide +kernel
theorem dX1_decode_48 : decode cX1_decode 48 = .ok (.ldc 65, 2) := by decide +kernel
theorem dX1_decode_50 : decode cX1_decode 50 = .ok (.if_icmp .lt 7, 3) := by decide +kernel
theorem dX1_decode_53 : decode cX1_decode 53 = .ok (.iconst 2, 1) := by decide +kernel
theorem dX1_decode_54 : decode cX1_decode 54 = .ok (.goto 4, 3) := by decide +kernel
theorem dX1_decode_57 : decode cX1_decode 57 = .ok (.iconst 1, 1) := by decide +kernel
theorem dX1_decode_58 : decode cX1_decode 58 = .ok (.istore 6, 2) := by decide +kernel
theorem dX1_decode_60 : decode cX1_decode 60 = .ok (.aload_n 0, 1) := by decide +kernel
theorem dX1_decode_61 : decode cX1_decode 61 = .ok (.getfield 42, 3) := by decide +kernel
theorem dX1_decode_64 : decode cX1_decode 64 = .ok (.iload 6, 2) := by decide +kernel
theorem dX1_decode_66 : decode cX1_decode 66 = .ok (.iadd, 1) := by decide +kernel
theorem dX1_decode_67 : decode cX1_decode 67 = .ok (.sipush 1500, 3) := by decide +kernel
theorem dX1_decode_70 : decode cX1_decode 70 = .ok (.if_icmp .le 5, 3) := by decide +kernel
theorem dX1_decode_73 : decode cX1_decode 73 = .ok (.iconst 0, 1) := by decide +kernel
theorem dX1_decode_74 : decode cX1_decode 74 = .ok (.ireturn, 1) := by decide +kernel
theorem dX1_decode_75 : decode cX1_decode 75 = .ok (.iload 6, 2) := by decide +kernel
theorem dX1_decode_77 : decode cX1_decode 77 = .ok (.iconst 2, 1) := by decide +kernel
theorem dX1_decode_78 : decode cX1_decode 78 = .ok (.if_icmp .ne 49, 3) := by decide +kernel
theorem dX1_decode_81 : decode cX1_decode 81 = .ok (.aload_n 0, 1) := by decide +kernel
theorem dX1_decode_82 : decode cX1_decode 82 = .ok (.getfield 15, 3) := by decide +kernel
theorem dX1_decode_85 : decode cX1_decode 85 = .ok (.aload_n 0, 1) := by decide +kernel
theorem dX1_decode_86 : decode cX1_decode 86 = .ok (.getfield 42, 3) := by decide +kernel
theorem dX1_decode_89 : decode cX1_decode 89 = .ok (.ldc 66, 2) := by decide +kernel
theorem dX1_decode_91 : decode cX1_decode 91 = .ok (.iload 5, 2) := by decide +kernel
theorem dX1_decode_93 : decode cX1_decode 93 = .ok (.ldc 65, 2) := by decide +kernel
theorem dX1_decode_95 : decode cX1_decode 95 = .ok (.isub, 1) := by decide +kernel
theorem dX1_decode_96 : decode cX1_decode 96 = .ok (.bipush 10, 2) := by decide +kernel
theorem dX1_decode_98 : decode cX1_decode 98 = .ok (.ishr, 1) := by decide +kernel
theorem dX1_decode_99 : decode cX1_decode 99 = .ok (.iadd, 1) := by decide +kernel
theorem dX1_decode_100 : decode cX1_decode 100 = .ok (.iastore, 1) := by decide +kernel
theorem dX1_decode_101 : decode cX1_decode 101 = .ok (.aload_n 0, 1) := by decide +kernel
theorem dX1_decode_102 : decode cX1_decode 102 = .ok (.getfield 15, 3) := by decide +kernel
theorem dX1_decode_105 : decode cX1_decode 105 = .ok (.aload_n 0, 1) := by decide +kernel
theorem dX1_decode_106 : decode cX1_decode 106 = .ok (.getfield 42, 3) := by decide +kernel
theorem dX1_decode_109 : decode cX1_decode 109 = .ok (.iconst 1, 1) := by decide +kernel
theorem dX1_decode_110 : decode cX1_decode 110 = .ok (.iadd, 1) := by decide +kernel
theorem dX1_decode_111 : decode cX1_decode 111 = .ok (.ldc 67, 2) := by decide +kernel
theorem dX1_decode_113 : decode cX1_decode 113 = .ok (.iload 5, 2) := by decide +kernel
theorem dX1_decode_115 : decode cX1_decode 115 = .ok (.ldc 65, 2) := by decide +kernel
theorem dX1_decode_117 : decode cX1_decode 117 = .ok (.isub, 1) := by decide +kernel
theorem dX1_decode_118 : decode cX1_decode 118 = .ok (.sipush 1023, 3) := by decide +kernel
theorem dX1_decode_121 : decode cX1_decode 121 = .ok (.iand, 1) := by decide +kernel
theorem dX1_decode_122 : decode cX1_decode 122 = .ok (.iadd, 1) := by decide +kernel
theorem dX1_decode_123 : decode cX1_decode 123 = .ok (.iastore, 1) := by decide +kernel
theorem dX1_decode_124 : decode cX1_decode 124 = .ok (.goto 24, 3) := by decide +kernel
theorem dX1_decode_127 : decode cX1_decode 127 = .ok (.aload_n 0, 1) := by decide +kernel
theorem dX1_decode_128 : decode cX1_decode 128 = .ok (.getfield 15, 3) := by decide +kernel
theorem dX1_decode_131 : decode cX1_decode 131 = .ok (.aload_n 0, 1) := by decide +kernel
theorem dX1_decode_132 : decode cX1_decode 132 = .ok (.getfield 42, 3) := by decide +kernel
theorem dX1_decode_135 : decode cX1_decode 135 = .ok (.iload 5, 2) := by decide +kernel
theorem dX1_decode_137 : decode cX1_decode 137 = .ok (.ifCond .ge 8, 3) := by decide +kernel
theorem dX1_decode_140 : decode cX1_decode 140 = .ok (.ldc 68, 2) := by decide +kernel
theorem dX1_decode_142 : decode cX1_decode 142 = .ok (.goto 5, 3) := by decide +kernel
theorem dX1_decode_145 : decode cX1_decode 145 = .ok (.iload 5, 2) := by decide +kernel
theorem dX1_decode_147 : decode cX1_decode 147 = .ok (.iastore, 1) := by decide +kernel
theorem dX1_decode_148 : decode cX1_decode 148 = .ok (.aload_n 0, 1) := by decide +kernel
theorem dX1_decode_149 : decode cX1_decode 149 = .ok (.dup, 1) := by decide +kernel
theorem dX1_decode_150 : decode cX1_decode 150 = .ok (.getfield 42, 3) := by decide +kernel
theorem dX1_decode_153 : decode cX1_decode 153 = .ok (.iload 6, 2) := by decide +kernel
theorem dX1_decode_155 : decode cX1_decode 155 = .ok (.iadd, 1) := by decide +kernel
theorem dX1_decode_156 : decode cX1_decode 156 = .ok (.putfield 42, 3) := by decide +kernel
theorem dX1_decode_159 : decode cX1_decode 159 = .ok (.iinc 4 1, 3) := by decide +kernel
theorem dX1_decode_162 : decode cX1_decode 162 = .ok (.goto (-152), 3) := by decide +kernel
theorem dX1_decode_165 : decode cX1_decode 165 = .ok (.iconst 1, 1) := by decide +kernel
theorem dX1_decode_166 : decode cX1_decode 166 = .ok (.ireturn, 1) := by decide +kernel
theorem dX1_endedBy_0 : decode cX1_endedBy 0 = .ok (.iconst 0, 1) := by decide +kernel
theorem dX1_endedBy_1 : decode cX1_endedBy 1 = .ok (.istore_n 2, 1) := by decide +kernel
theorem dX1_endedBy_2 : decode cX1_endedBy 2 = .ok (.iload_n 2, 1) := by decide +kernel
theorem dX1_endedBy_3 : decode cX1_endedBy 3 = .ok (.aload_n 0, 1) := by decide +kernel
theorem dX1_endedBy_4 : decode cX1_endedBy 4 = .ok (.getfield 69, 3) := by decide +kernel
theorem dX1_endedBy_7 : decode cX1_endedBy 7 = .ok (.if_icmp .ge 19, 3) := by decide +kernel
theorem dX1_endedBy_10 : decode cX1_endedBy 10 = .ok (.aload_n 0, 1) := by decide +kernel
theorem dX1_endedBy_11 : decode cX1_endedBy 11 = .ok (.getfield 21, 3) := by decide +kernel
theorem dX1_endedBy_14 : decode cX1_endedBy 14 = .ok (.iload_n 2, 1) := by decide +kernel
theorem dX1_endedBy_15 : decode cX1_endedBy 15 = .ok (.iaload, 1) := by decide +kernel
theorem dX1_endedBy_16 : decode cX1_endedBy 16 = .ok (.iload_n 1, 1) := by decide +kernel
theorem dX1_endedBy_17 : decode cX1_endedBy 17 = .ok (.if_icmp .gt 9, 3) := by decide +kernel
theorem dX1_endedBy_20 : decode cX1_endedBy 20 = .ok (.iinc 2 1, 3) := by decide +kernel
theorem dX1_endedBy_23 : decode cX1_endedBy 23 = .ok (.goto (-21), 3) := by decide +kernel
theorem dX1_endedBy_26 : decode cX1_endedBy 26 = .ok (.iload_n 2, 1) := by decide +kernel
theorem dX1_endedBy_27 : decode cX1_endedBy 27 = .ok (.ireturn, 1) := by decide +kernel
theorem dX1_earlyFault_0 : decode cX1_earlyFault 0 = .ok (.aload_n 0, 1) := by decide +kernel
theorem dX1_earlyFault_1 : decode cX1_earlyFault 1 = .ok (.getfield 72, 3) := by decide +kernel
theorem dX1_earlyFault_4 : decode cX1_earlyFault 4 = .ok (.aload_n 0, 1) := by decide +kernel
theorem dX1_earlyFault_5 : decode cX1_earlyFault 5 = .ok (.getfield 69, 3) := by decide +kernel
theorem dX1_earlyFault_8 : decode cX1_earlyFault 8 = .ok (.if_icmp .ge 15, 3) := by decide +kernel
theorem dX1_earlyFault_11 : decode cX1_earlyFault 11 = .ok (.aload_n 0, 1) := by decide +kernel
theorem dX1_earlyFault_12 : decode cX1_earlyFault 12 = .ok (.getfield 27, 3) := by decide +kernel
theorem dX1_earlyFault_15 : decode cX1_earlyFault 15 = .ok (.aload_n 0, 1) := by decide +kernel
theorem dX1_earlyFault_16 : decode cX1_earlyFault 16 = .ok (.getfield 72, 3) := by decide +kernel
theorem dX1_earlyFault_19 : decode cX1_earlyFault 19 = .ok (.iaload, 1) := by decide +kernel
theorem dX1_earlyFault_20 : decode cX1_earlyFault 20 = .ok (.goto 4, 3) := by decide +kernel
theorem dX1_earlyFault_23 : decode cX1_earlyFault 23 = .ok (.iconst 0, 1) := by decide +kernel
theorem dX1_earlyFault_24 : decode cX1_earlyFault 24 = .ok (.ireturn, 1) := by decide +kernel
theorem dX1_part_0 : decode cX1_part 0 = .ok (.aload_n 0, 1) := by decide +kernel
theorem dX1_part_1 : decode cX1_part 1 = .ok (.iconst 0, 1) := by decide +kernel
theorem dX1_part_2 : decode cX1_part 2 = .ok (.putfield 69, 3) := by decide +kernel
theorem dX1_part_5 : decode cX1_part 5 = .ok (.aload_n 0, 1) := by decide +kernel
theorem dX1_part_6 : decode cX1_part 6 = .ok (.iconst 0, 1) := by decide +kernel
theorem dX1_part_7 : decode cX1_part 7 = .ok (.invokevirtual 75, 3) := by decide +kernel
theorem dX1_part_10 : decode cX1_part 10 = .ok (.istore_n 2, 1) := by decide +kernel
theorem dX1_part_11 : decode cX1_part 11 = .ok (.iconst 0, 1) := by decide +kernel
theorem dX1_part_12 : decode cX1_part 12 = .ok (.istore_n 3, 1) := by decide +kernel
theorem dX1_part_13 : decode cX1_part 13 = .ok (.iload_n 3, 1) := by decide +kernel
theorem dX1_part_14 : decode cX1_part 14 = .ok (.bipush 40, 2) := by decide +kernel
theorem dX1_part_16 : decode cX1_part 16 = .ok (.if_icmp .ge 85, 3) := by decide +kernel
theorem dX1_part_19 : decode cX1_part 19 = .ok (.iload_n 2, 1) := by decide +kernel
theorem dX1_part_20 : decode cX1_part 20 = .ok (.aload_n 0, 1) := by decide +kernel
theorem dX1_part_21 : decode cX1_part 21 = .ok (.getfield 42, 3) := by decide +kernel
theorem dX1_part_24 : decode cX1_part 24 = .ok (.if_icmp .ge 77, 3) := by decide +kernel
theorem dX1_part_27 : decode cX1_part 27 = .ok (.aload_n 0, 1) := by decide +kernel
theorem dX1_part_28 : decode cX1_part 28 = .ok (.iload_n 2, 1) := by decide +kernel
theorem dX1_part_29 : decode cX1_part 29 = .ok (.invokevirtual 78, 3) := by decide +kernel
theorem dX1_part_32 : decode cX1_part 32 = .ok (.istore 4, 2) := by decide +kernel
theorem dX1_part_34 : decode cX1_part 34 = .ok (.aload_n 0, 1) := by decide +kernel
theorem dX1_part_35 : decode cX1_part 35 = .ok (.getfield 18, 3) := by decide +kernel
theorem dX1_part_38 : decode cX1_part 38 = .ok (.iload_n 3, 1) := by decide +kernel
theorem dX1_part_39 : decode cX1_part 39 = .ok (.iload_n 2, 1) := by decide +kernel
theorem dX1_part_40 : decode cX1_part 40 = .ok (.iastore, 1) := by decide +kernel
theorem dX1_part_41 : decode cX1_part 41 = .ok (.aload_n 0, 1) := by decide +kernel
theorem dX1_part_42 : decode cX1_part 42 = .ok (.getfield 21, 3) := by decide +kernel
theorem dX1_part_45 : decode cX1_part 45 = .ok (.iload_n 3, 1) := by decide +kernel
theorem dX1_part_46 : decode cX1_part 46 = .ok (.iload 4, 2) := by decide +kernel
theorem dX1_part_48 : decode cX1_part 48 = .ok (.ifCond .ge 10, 3) := by decide +kernel
theorem dX1_part_51 : decode cX1_part 51 = .ok (.aload_n 0, 1) := by decide +kernel
theorem dX1_part_52 : decode cX1_part 52 = .ok (.getfield 42, 3) := by decide +kernel
theorem dX1_part_55 : decode cX1_part 55 = .ok (.goto 5, 3) := by decide +kernel
theorem dX1_part_58 : decode cX1_part 58 = .ok (.iload 4, 2) := by decide +kernel
theorem dX1_part_60 : decode cX1_part 60 = .ok (.iastore, 1) := by decide +kernel
theorem dX1_part_61 : decode cX1_part 61 = .ok (.aload_n 0, 1) := by decide +kernel
theorem dX1_part_62 : decode cX1_part 62 = .ok (.getfield 27, 3) := by decide +kernel
theorem dX1_part_65 : decode cX1_part 65 = .ok (.iload_n 3, 1) := by decide +kernel
theorem dX1_part_66 : decode cX1_part 66 = .ok (.iload 4, 2) := by decide +kernel
theorem dX1_part_68 : decode cX1_part 68 = .ok (.ifCond .ge 7, 3) := by decide +kernel
theorem dX1_part_71 : decode cX1_part 71 = .ok (.iconst 1, 1) := by decide +kernel
theorem dX1_part_72 : decode cX1_part 72 = .ok (.goto 4, 3) := by decide +kernel
theorem dX1_part_75 : decode cX1_part 75 = .ok (.iconst 0, 1) := by decide +kernel
theorem dX1_part_76 : decode cX1_part 76 = .ok (.iastore, 1) := by decide +kernel
theorem dX1_part_77 : decode cX1_part 77 = .ok (.aload_n 0, 1) := by decide +kernel
theorem dX1_part_78 : decode cX1_part 78 = .ok (.iload_n 3, 1) := by decide +kernel
theorem dX1_part_79 : decode cX1_part 79 = .ok (.iconst 1, 1) := by decide +kernel
theorem dX1_part_80 : decode cX1_part 80 = .ok (.iadd, 1) := by decide +kernel
theorem dX1_part_81 : decode cX1_part 81 = .ok (.putfield 69, 3) := by decide +kernel
theorem dX1_part_84 : decode cX1_part 84 = .ok (.aload_n 0, 1) := by decide +kernel
theorem dX1_part_85 : decode cX1_part 85 = .ok (.aload_n 0, 1) := by decide +kernel
theorem dX1_part_86 : decode cX1_part 86 = .ok (.getfield 21, 3) := by decide +kernel
theorem dX1_part_89 : decode cX1_part 89 = .ok (.iload_n 3, 1) := by decide +kernel
theorem dX1_part_90 : decode cX1_part 90 = .ok (.iaload, 1) := by decide +kernel
theorem dX1_part_91 : decode cX1_part 91 = .ok (.invokevirtual 75, 3) := by decide +kernel
theorem dX1_part_94 : decode cX1_part 94 = .ok (.istore_n 2, 1) := by decide +kernel
theorem dX1_part_95 : decode cX1_part 95 = .ok (.iinc 3 1, 3) := by decide +kernel
theorem dX1_part_98 : decode cX1_part 98 = .ok (.goto (-85), 3) := by decide +kernel
theorem dX1_part_101 : decode cX1_part 101 = .ok (.iload_n 2, 1) := by decide +kernel
theorem dX1_part_102 : decode cX1_part 102 = .ok (.aload_n 0, 1) := by decide +kernel
theorem dX1_part_103 : decode cX1_part 103 = .ok (.getfield 42, 3) := by decide +kernel
theorem dX1_part_106 : decode cX1_part 106 = .ok (.if_icmp .ge 31, 3) := by decide +kernel
theorem dX1_part_109 : decode cX1_part 109 = .ok (.aload_n 0, 1) := by decide +kernel
theorem dX1_part_110 : decode cX1_part 110 = .ok (.getfield 69, 3) := by decide +kernel
theorem dX1_part_113 : decode cX1_part 113 = .ok (.bipush 40, 2) := by decide +kernel
theorem dX1_part_115 : decode cX1_part 115 = .ok (.if_icmp .ne 22, 3) := by decide +kernel
theorem dX1_part_118 : decode cX1_part 118 = .ok (.aload_n 0, 1) := by decide +kernel
theorem dX1_part_119 : decode cX1_part 119 = .ok (.getfield 21, 3) := by decide +kernel
theorem dX1_part_122 : decode cX1_part 122 = .ok (.bipush 39, 2) := by decide +kernel
theorem dX1_part_124 : decode cX1_part 124 = .ok (.aload_n 0, 1) := by decide +kernel
theorem dX1_part_125 : decode cX1_part 125 = .ok (.getfield 42, 3) := by decide +kernel
theorem dX1_part_128 : decode cX1_part 128 = .ok (.iastore, 1) := by decide +kernel
theorem dX1_part_129 : decode cX1_part 129 = .ok (.aload_n 0, 1) := by decide +kernel
theorem dX1_part_130 : decode cX1_part 130 = .ok (.getfield 27, 3) := by decide +kernel
theorem dX1_part_133 : decode cX1_part 133 = .ok (.bipush 39, 2) := by decide +kernel
theorem dX1_part_135 : decode cX1_part 135 = .ok (.iconst 2, 1) := by decide +kernel
theorem dX1_part_136 : decode cX1_part 136 = .ok (.iastore, 1) := by decide +kernel
theorem dX1_part_137 : decode cX1_part 137 = .ok (.iconst 0, 1) := by decide +kernel
theorem dX1_part_138 : decode cX1_part 138 = .ok (.istore_n 3, 1) := by decide +kernel
theorem dX1_part_139 : decode cX1_part 139 = .ok (.iload_n 3, 1) := by decide +kernel
theorem dX1_part_140 : decode cX1_part 140 = .ok (.aload_n 0, 1) := by decide +kernel
theorem dX1_part_141 : decode cX1_part 141 = .ok (.getfield 69, 3) := by decide +kernel
theorem dX1_part_144 : decode cX1_part 144 = .ok (.if_icmp .ge 50, 3) := by decide +kernel
theorem dX1_part_147 : decode cX1_part 147 = .ok (.aload_n 0, 1) := by decide +kernel
theorem dX1_part_148 : decode cX1_part 148 = .ok (.getfield 24, 3) := by decide +kernel
theorem dX1_part_151 : decode cX1_part 151 = .ok (.iload_n 3, 1) := by decide +kernel
theorem dX1_part_152 : decode cX1_part 152 = .ok (.iconst 3, 1) := by decide +kernel
theorem dX1_part_153 : decode cX1_part 153 = .ok (.aload_n 0, 1) := by decide +kernel
theorem dX1_part_154 : decode cX1_part 154 = .ok (.getfield 27, 3) := by decide +kernel
theorem dX1_part_157 : decode cX1_part 157 = .ok (.iload_n 3, 1) := by decide +kernel
theorem dX1_part_158 : decode cX1_part 158 = .ok (.iaload, 1) := by decide +kernel
theorem dX1_part_159 : decode cX1_part 159 = .ok (.ifCond .le 7, 3) := by decide +kernel
theorem dX1_part_162 : decode cX1_part 162 = .ok (.iconst 1, 1) := by decide +kernel
theorem dX1_part_163 : decode cX1_part 163 = .ok (.goto 23, 3) := by decide +kernel
theorem dX1_part_166 : decode cX1_part 166 = .ok (.aload_n 1, 1) := by decide +kernel
theorem dX1_part_167 : decode cX1_part 167 = .ok (.aload_n 0, 1) := by decide +kernel
theorem dX1_part_168 : decode cX1_part 168 = .ok (.getfield 15, 3) := by decide +kernel
theorem dX1_part_171 : decode cX1_part 171 = .ok (.aload_n 0, 1) := by decide +kernel
theorem dX1_part_172 : decode cX1_part 172 = .ok (.getfield 18, 3) := by decide +kernel
theorem dX1_part_175 : decode cX1_part 175 = .ok (.iload_n 3, 1) := by decide +kernel
theorem dX1_part_176 : decode cX1_part 176 = .ok (.iaload, 1) := by decide +kernel
theorem dX1_part_177 : decode cX1_part 177 = .ok (.aload_n 0, 1) := by decide +kernel
theorem dX1_part_178 : decode cX1_part 178 = .ok (.getfield 21, 3) := by decide +kernel
theorem dX1_part_181 : decode cX1_part 181 = .ok (.iload_n 3, 1) := by decide +kernel
theorem dX1_part_182 : decode cX1_part 182 = .ok (.iaload, 1) := by decide +kernel
theorem dX1_part_183 : decode cX1_part 183 = .ok (.invokevirtual 81, 3) := by decide +kernel
theorem dX1_part_186 : decode cX1_part 186 = .ok (.iadd, 1) := by decide +kernel
theorem dX1_part_187 : decode cX1_part 187 = .ok (.iastore, 1) := by decide +kernel
theorem dX1_part_188 : decode cX1_part 188 = .ok (.iinc 3 1, 3) := by decide +kernel
theorem dX1_part_191 : decode cX1_part 191 = .ok (.goto (-52), 3) := by decide +kernel
theorem dX1_part_194 : decode cX1_part 194 = .ok (.return_, 1) := by decide +kernel
theorem dX1_sentenceBegin_0 : decode cX1_sentenceBegin 0 = .ok (.iload_n 1, 1) := by decide +kernel
theorem dX1_sentenceBegin_1 : decode cX1_sentenceBegin 1 = .ok (.istore_n 2, 1) := by decide +kernel
theorem dX1_sentenceBegin_2 : decode cX1_sentenceBegin 2 = .ok (.iconst 0, 1) := by decide +kernel
theorem dX1_sentenceBegin_3 : decode cX1_sentenceBegin 3 = .ok (.istore_n 3, 1) := by decide +kernel
theorem dX1_sentenceBegin_4 : decode cX1_sentenceBegin 4 = .ok (.iload_n 3, 1) := by decide +kernel
theorem dX1_sentenceBegin_5 : decode cX1_sentenceBegin 5 = .ok (.aload_n 0, 1) := by decide +kernel
theorem dX1_sentenceBegin_6 : decode cX1_sentenceBegin 6 = .ok (.getfield 42, 3) := by decide +kernel
theorem dX1_sentenceBegin_9 : decode cX1_sentenceBegin 9 = .ok (.if_icmp .gt 59, 3) := by decide +kernel
theorem dX1_sentenceBegin_12 : decode cX1_sentenceBegin 12 = .ok (.iload_n 2, 1) := by decide +kernel
theorem dX1_sentenceBegin_13 : decode cX1_sentenceBegin 13 = .ok (.aload_n 0, 1) := by decide +kernel
theorem dX1_sentenceBegin_14 : decode cX1_sentenceBegin 14 = .ok (.getfield 42, 3) := by decide +kernel
theorem dX1_sentenceBegin_17 : decode cX1_sentenceBegin 17 = .ok (.if_icmp .ge 51, 3) := by decide +kernel
theorem dX1_sentenceBegin_20 : decode cX1_sentenceBegin 20 = .ok (.aload_n 0, 1) := by decide +kernel
theorem dX1_sentenceBegin_21 : decode cX1_sentenceBegin 21 = .ok (.getfield 15, 3) := by decide +kernel
theorem dX1_sentenceBegin_24 : decode cX1_sentenceBegin 24 = .ok (.iload_n 2, 1) := by decide +kernel
theorem dX1_sentenceBegin_25 : decode cX1_sentenceBegin 25 = .ok (.iaload, 1) := by decide +kernel
theorem dX1_sentenceBegin_26 : decode cX1_sentenceBegin 26 = .ok (.invokestatic 87, 3) := by decide +kernel
theorem dX1_sentenceBegin_29 : decode cX1_sentenceBegin 29 = .ok (.ifCond .eq 9, 3) := by decide +kernel
theorem dX1_sentenceBegin_32 : decode cX1_sentenceBegin 32 = .ok (.iinc 2 1, 3) := by decide +kernel
theorem dX1_sentenceBegin_35 : decode cX1_sentenceBegin 35 = .ok (.goto 27, 3) := by decide +kernel
theorem dX1_sentenceBegin_38 : decode cX1_sentenceBegin 38 = .ok (.aload_n 0, 1) := by decide +kernel
theorem dX1_sentenceBegin_39 : decode cX1_sentenceBegin 39 = .ok (.getfield 15, 3) := by decide +kernel
theorem dX1_sentenceBegin_42 : decode cX1_sentenceBegin 42 = .ok (.iload_n 2, 1) := by decide +kernel
theorem dX1_sentenceBegin_43 : decode cX1_sentenceBegin 43 = .ok (.aload_n 0, 1) := by decide +kernel
theorem dX1_sentenceBegin_44 : decode cX1_sentenceBegin 44 = .ok (.getfield 42, 3) := by decide +kernel
theorem dX1_sentenceBegin_47 : decode cX1_sentenceBegin 47 = .ok (.invokestatic 91, 3) := by decide +kernel
theorem dX1_sentenceBegin_50 : decode cX1_sentenceBegin 50 = .ok (.istore 4, 2) := by decide +kernel
theorem dX1_sentenceBegin_52 : decode cX1_sentenceBegin 52 = .ok (.iload 4, 2) := by decide +kernel
theorem dX1_sentenceBegin_54 : decode cX1_sentenceBegin 54 = .ok (.ifCond .ge 5, 3) := by decide +kernel
theorem dX1_sentenceBegin_57 : decode cX1_sentenceBegin 57 = .ok (.iload_n 2, 1) := by decide +kernel
theorem dX1_sentenceBegin_58 : decode cX1_sentenceBegin 58 = .ok (.ireturn, 1) := by decide +kernel
theorem dX1_sentenceBegin_59 : decode cX1_sentenceBegin 59 = .ok (.iload 4, 2) := by decide +kernel
theorem dX1_sentenceBegin_61 : decode cX1_sentenceBegin 61 = .ok (.istore_n 2, 1) := by decide +kernel
theorem dX1_sentenceBegin_62 : decode cX1_sentenceBegin 62 = .ok (.iinc 3 1, 3) := by decide +kernel
theorem dX1_sentenceBegin_65 : decode cX1_sentenceBegin 65 = .ok (.goto (-61), 3) := by decide +kernel
theorem dX1_sentenceBegin_68 : decode cX1_sentenceBegin 68 = .ok (.iload_n 2, 1) := by decide +kernel
theorem dX1_sentenceBegin_69 : decode cX1_sentenceBegin 69 = .ok (.ireturn, 1) := by decide +kernel
theorem dX1_sentenceEnd_0 : decode cX1_sentenceEnd 0 = .ok (.iload_n 1, 1) := by decide +kernel
theorem dX1_sentenceEnd_1 : decode cX1_sentenceEnd 1 = .ok (.istore_n 2, 1) := by decide +kernel
theorem dX1_sentenceEnd_2 : decode cX1_sentenceEnd 2 = .ok (.iconst 0, 1) := by decide +kernel
theorem dX1_sentenceEnd_3 : decode cX1_sentenceEnd 3 = .ok (.istore_n 3, 1) := by decide +kernel
theorem dX1_sentenceEnd_4 : decode cX1_sentenceEnd 4 = .ok (.iload_n 3, 1) := by decide +kernel
theorem dX1_sentenceEnd_5 : decode cX1_sentenceEnd 5 = .ok (.aload_n 0, 1) := by decide +kernel
theorem dX1_sentenceEnd_6 : decode cX1_sentenceEnd 6 = .ok (.getfield 42, 3) := by decide +kernel
theorem dX1_sentenceEnd_9 : decode cX1_sentenceEnd 9 = .ok (.if_icmp .gt 114, 3) := by decide +kernel
theorem dX1_sentenceEnd_12 : decode cX1_sentenceEnd 12 = .ok (.iload_n 2, 1) := by decide +kernel
theorem dX1_sentenceEnd_13 : decode cX1_sentenceEnd 13 = .ok (.aload_n 0, 1) := by decide +kernel
theorem dX1_sentenceEnd_14 : decode cX1_sentenceEnd 14 = .ok (.getfield 42, 3) := by decide +kernel
theorem dX1_sentenceEnd_17 : decode cX1_sentenceEnd 17 = .ok (.if_icmp .ge 106, 3) := by decide +kernel
theorem dX1_sentenceEnd_20 : decode cX1_sentenceEnd 20 = .ok (.aload_n 0, 1) := by decide +kernel
theorem dX1_sentenceEnd_21 : decode cX1_sentenceEnd 21 = .ok (.getfield 15, 3) := by decide +kernel
theorem dX1_sentenceEnd_24 : decode cX1_sentenceEnd 24 = .ok (.iload_n 2, 1) := by decide +kernel
theorem dX1_sentenceEnd_25 : decode cX1_sentenceEnd 25 = .ok (.aload_n 0, 1) := by decide +kernel
theorem dX1_sentenceEnd_26 : decode cX1_sentenceEnd 26 = .ok (.getfield 42, 3) := by decide +kernel
theorem dX1_sentenceEnd_29 : decode cX1_sentenceEnd 29 = .ok (.invokestatic 94, 3) := by decide +kernel
theorem dX1_sentenceEnd_32 : decode cX1_sentenceEnd 32 = .ok (.ifCond .eq 22, 3) := by decide +kernel
theorem dX1_sentenceEnd_35 : decode cX1_sentenceEnd 35 = .ok (.aload_n 0, 1) := by decide +kernel
theorem dX1_sentenceEnd_36 : decode cX1_sentenceEnd 36 = .ok (.getfield 15, 3) := by decide +kernel
theorem dX1_sentenceEnd_39 : decode cX1_sentenceEnd 39 = .ok (.iload_n 2, 1) := by decide +kernel
theorem dX1_sentenceEnd_40 : decode cX1_sentenceEnd 40 = .ok (.aload_n 0, 1) := by decide +kernel
theorem dX1_sentenceEnd_41 : decode cX1_sentenceEnd 41 = .ok (.getfield 42, 3) := by decide +kernel
theorem dX1_sentenceEnd_44 : decode cX1_sentenceEnd 44 = .ok (.invokestatic 91, 3) := by decide +kernel
theorem dX1_sentenceEnd_47 : decode cX1_sentenceEnd 47 = .ok (.istore_n 2, 1) := by decide +kernel
theorem dX1_sentenceEnd_48 : decode cX1_sentenceEnd 48 = .ok (.iload_n 2, 1) := by decide +kernel
theorem dX1_sentenceEnd_49 : decode cX1_sentenceEnd 49 = .ok (.ifCond .ge 68, 3) := by decide +kernel
theorem dX1_sentenceEnd_52 : decode cX1_sentenceEnd 52 = .ok (.iconst (-1), 1) := by decide +kernel
theorem dX1_sentenceEnd_53 : decode cX1_sentenceEnd 53 = .ok (.ireturn, 1) := by decide +kernel
theorem dX1_sentenceEnd_54 : decode cX1_sentenceEnd 54 = .ok (.aload_n 0, 1) := by decide +kernel
theorem dX1_sentenceEnd_55 : decode cX1_sentenceEnd 55 = .ok (.getfield 15, 3) := by decide +kernel
theorem dX1_sentenceEnd_58 : decode cX1_sentenceEnd 58 = .ok (.iload_n 2, 1) := by decide +kernel
theorem dX1_sentenceEnd_59 : decode cX1_sentenceEnd 59 = .ok (.iaload, 1) := by decide +kernel
theorem dX1_sentenceEnd_60 : decode cX1_sentenceEnd 60 = .ok (.bipush 46, 2) := by decide +kernel
theorem dX1_sentenceEnd_62 : decode cX1_sentenceEnd 62 = .ok (.if_icmp .ne 7, 3) := by decide +kernel
theorem dX1_sentenceEnd_65 : decode cX1_sentenceEnd 65 = .ok (.iconst 1, 1) := by decide +kernel
theorem dX1_sentenceEnd_66 : decode cX1_sentenceEnd 66 = .ok (.goto 4, 3) := by decide +kernel
theorem dX1_sentenceEnd_69 : decode cX1_sentenceEnd 69 = .ok (.iconst 0, 1) := by decide +kernel
theorem dX1_sentenceEnd_70 : decode cX1_sentenceEnd 70 = .ok (.istore 4, 2) := by decide +kernel
theorem dX1_sentenceEnd_72 : decode cX1_sentenceEnd 72 = .ok (.iinc 2 1, 3) := by decide +kernel
theorem dX1_sentenceEnd_75 : decode cX1_sentenceEnd 75 = .ok (.iload 4, 2) := by decide +kernel
theorem dX1_sentenceEnd_77 : decode cX1_sentenceEnd 77 = .ok (.ifCond .eq 40, 3) := by decide +kernel
theorem dX1_sentenceEnd_80 : decode cX1_sentenceEnd 80 = .ok (.iload_n 2, 1) := by decide +kernel
theorem dX1_sentenceEnd_81 : decode cX1_sentenceEnd 81 = .ok (.aload_n 0, 1) := by decide +kernel
theorem dX1_sentenceEnd_82 : decode cX1_sentenceEnd 82 = .ok (.getfield 42, 3) := by decide +kernel
theorem dX1_sentenceEnd_85 : decode cX1_sentenceEnd 85 = .ok (.if_icmp .eq 30, 3) := by decide +kernel
theorem dX1_sentenceEnd_88 : decode cX1_sentenceEnd 88 = .ok (.aload_n 0, 1) := by decide +kernel
theorem dX1_sentenceEnd_89 : decode cX1_sentenceEnd 89 = .ok (.getfield 15, 3) := by decide +kernel
theorem dX1_sentenceEnd_92 : decode cX1_sentenceEnd 92 = .ok (.iload_n 2, 1) := by decide +kernel
theorem dX1_sentenceEnd_93 : decode cX1_sentenceEnd 93 = .ok (.iaload, 1) := by decide +kernel
theorem dX1_sentenceEnd_94 : decode cX1_sentenceEnd 94 = .ok (.invokestatic 87, 3) := by decide +kernel
theorem dX1_sentenceEnd_97 : decode cX1_sentenceEnd 97 = .ok (.ifCond .ne 18, 3) := by decide +kernel
theorem dX1_sentenceEnd_100 : decode cX1_sentenceEnd 100 = .ok (.aload_n 0, 1) := by decide +kernel
theorem dX1_sentenceEnd_101 : decode cX1_sentenceEnd 101 = .ok (.getfield 15, 3) := by decide +kernel
theorem dX1_sentenceEnd_104 : decode cX1_sentenceEnd 104 = .ok (.iload_n 2, 1) := by decide +kernel
theorem dX1_sentenceEnd_105 : decode cX1_sentenceEnd 105 = .ok (.aload_n 0, 1) := by decide +kernel
theorem dX1_sentenceEnd_106 : decode cX1_sentenceEnd 106 = .ok (.getfield 42, 3) := by decide +kernel
theorem dX1_sentenceEnd_109 : decode cX1_sentenceEnd 109 = .ok (.invokestatic 94, 3) := by decide +kernel
theorem dX1_sentenceEnd_112 : decode cX1_sentenceEnd 112 = .ok (.ifCond .eq 5, 3) := by decide +kernel
theorem dX1_sentenceEnd_115 : decode cX1_sentenceEnd 115 = .ok (.iload_n 2, 1) := by decide +kernel
theorem dX1_sentenceEnd_116 : decode cX1_sentenceEnd 116 = .ok (.ireturn, 1) := by decide +kernel
theorem dX1_sentenceEnd_117 : decode cX1_sentenceEnd 117 = .ok (.iinc 3 1, 3) := by decide +kernel
theorem dX1_sentenceEnd_120 : decode cX1_sentenceEnd 120 = .ok (.goto (-116), 3) := by decide +kernel
theorem dX1_sentenceEnd_123 : decode cX1_sentenceEnd 123 = .ok (.iconst (-1), 1) := by decide +kernel
theorem dX1_sentenceEnd_124 : decode cX1_sentenceEnd 124 = .ok (.ireturn, 1) := by decide +kernel
theorem dX1_placeOf_0 : decode cX1_placeOf 0 = .ok (.iload_n 1, 1) := by decide +kernel
theorem dX1_placeOf_1 : decode cX1_placeOf 1 = .ok (.ifCond .lt 7, 3) := by decide +kernel
theorem dX1_placeOf_4 : decode cX1_placeOf 4 = .ok (.iload_n 2, 1) := by decide +kernel
theorem dX1_placeOf_5 : decode cX1_placeOf 5 = .ok (.ifCond .ge 5, 3) := by decide +kernel
theorem dX1_placeOf_8 : decode cX1_placeOf 8 = .ok (.iconst (-1), 1) := by decide +kernel
theorem dX1_placeOf_9 : decode cX1_placeOf 9 = .ok (.ireturn, 1) := by decide +kernel
theorem dX1_placeOf_10 : decode cX1_placeOf 10 = .ok (.iconst 0, 1) := by decide +kernel
theorem dX1_placeOf_11 : decode cX1_placeOf 11 = .ok (.istore_n 3, 1) := by decide +kernel
theorem dX1_placeOf_12 : decode cX1_placeOf 12 = .ok (.iconst 0, 1) := by decide +kernel
theorem dX1_placeOf_13 : decode cX1_placeOf 13 = .ok (.istore 4, 2) := by decide +kernel
theorem dX1_placeOf_15 : decode cX1_placeOf 15 = .ok (.iload_n 3, 1) := by decide +kernel
theorem dX1_placeOf_16 : decode cX1_placeOf 16 = .ok (.aload_n 0, 1) := by decide +kernel
theorem dX1_placeOf_17 : decode cX1_placeOf 17 = .ok (.getfield 42, 3) := by decide +kernel
theorem dX1_placeOf_20 : decode cX1_placeOf 20 = .ok (.if_icmp .ge 26, 3) := by decide +kernel
theorem dX1_placeOf_23 : decode cX1_placeOf 23 = .ok (.iload 4, 2) := by decide +kernel
theorem dX1_placeOf_25 : decode cX1_placeOf 25 = .ok (.iload_n 1, 1) := by decide +kernel
theorem dX1_placeOf_26 : decode cX1_placeOf 26 = .ok (.if_icmp .ge 20, 3) := by decide +kernel
theorem dX1_placeOf_29 : decode cX1_placeOf 29 = .ok (.aload_n 0, 1) := by decide +kernel
theorem dX1_placeOf_30 : decode cX1_placeOf 30 = .ok (.iload_n 3, 1) := by decide +kernel
theorem dX1_placeOf_31 : decode cX1_placeOf 31 = .ok (.invokevirtual 108, 3) := by decide +kernel
theorem dX1_placeOf_34 : decode cX1_placeOf 34 = .ok (.ifCond .eq 6, 3) := by decide +kernel
theorem dX1_placeOf_37 : decode cX1_placeOf 37 = .ok (.iinc 4 1, 3) := by decide +kernel
theorem dX1_placeOf_40 : decode cX1_placeOf 40 = .ok (.iinc 3 1, 3) := by decide +kernel
theorem dX1_placeOf_43 : decode cX1_placeOf 43 = .ok (.goto (-28), 3) := by decide +kernel
theorem dX1_placeOf_46 : decode cX1_placeOf 46 = .ok (.iload 4, 2) := by decide +kernel
theorem dX1_placeOf_48 : decode cX1_placeOf 48 = .ok (.iload_n 1, 1) := by decide +kernel
theorem dX1_placeOf_49 : decode cX1_placeOf 49 = .ok (.if_icmp .ge 5, 3) := by decide +kernel
theorem dX1_placeOf_52 : decode cX1_placeOf 52 = .ok (.iconst (-1), 1) := by decide +kernel
theorem dX1_placeOf_53 : decode cX1_placeOf 53 = .ok (.ireturn, 1) := by decide +kernel
theorem dX1_placeOf_54 : decode cX1_placeOf 54 = .ok (.iload_n 3, 1) := by decide +kernel
theorem dX1_placeOf_55 : decode cX1_placeOf 55 = .ok (.istore 5, 2) := by decide +kernel
theorem dX1_placeOf_57 : decode cX1_placeOf 57 = .ok (.iload_n 3, 1) := by decide +kernel
theorem dX1_placeOf_58 : decode cX1_placeOf 58 = .ok (.aload_n 0, 1) := by decide +kernel
theorem dX1_placeOf_59 : decode cX1_placeOf 59 = .ok (.getfield 42, 3) := by decide +kernel
theorem dX1_placeOf_62 : decode cX1_placeOf 62 = .ok (.if_icmp .ge 39, 3) := by decide +kernel
theorem dX1_placeOf_65 : decode cX1_placeOf 65 = .ok (.iload_n 3, 1) := by decide +kernel
theorem dX1_placeOf_66 : decode cX1_placeOf 66 = .ok (.iload 5, 2) := by decide +kernel
theorem dX1_placeOf_68 : decode cX1_placeOf 68 = .ok (.isub, 1) := by decide +kernel
theorem dX1_placeOf_69 : decode cX1_placeOf 69 = .ok (.iload_n 2, 1) := by decide +kernel
theorem dX1_placeOf_70 : decode cX1_placeOf 70 = .ok (.if_icmp .ge 31, 3) := by decide +kernel
theorem dX1_placeOf_73 : decode cX1_placeOf 73 = .ok (.aload_n 0, 1) := by decide +kernel
theorem dX1_placeOf_74 : decode cX1_placeOf 74 = .ok (.getfield 15, 3) := by decide +kernel
theorem dX1_placeOf_77 : decode cX1_placeOf 77 = .ok (.iload_n 3, 1) := by decide +kernel
theorem dX1_placeOf_78 : decode cX1_placeOf 78 = .ok (.iaload, 1) := by decide +kernel
theorem dX1_placeOf_79 : decode cX1_placeOf 79 = .ok (.bipush 10, 2) := by decide +kernel
theorem dX1_placeOf_81 : decode cX1_placeOf 81 = .ok (.if_icmp .eq 20, 3) := by decide +kernel
theorem dX1_placeOf_84 : decode cX1_placeOf 84 = .ok (.aload_n 0, 1) := by decide +kernel
theorem dX1_placeOf_85 : decode cX1_placeOf 85 = .ok (.getfield 15, 3) := by decide +kernel
theorem dX1_placeOf_88 : decode cX1_placeOf 88 = .ok (.iload_n 3, 1) := by decide +kernel
theorem dX1_placeOf_89 : decode cX1_placeOf 89 = .ok (.iaload, 1) := by decide +kernel
theorem dX1_placeOf_90 : decode cX1_placeOf 90 = .ok (.bipush 13, 2) := by decide +kernel
theorem dX1_placeOf_92 : decode cX1_placeOf 92 = .ok (.if_icmp .eq 9, 3) := by decide +kernel
theorem dX1_placeOf_95 : decode cX1_placeOf 95 = .ok (.iinc 3 1, 3) := by decide +kernel
theorem dX1_placeOf_98 : decode cX1_placeOf 98 = .ok (.goto (-41), 3) := by decide +kernel
theorem dX1_placeOf_101 : decode cX1_placeOf 101 = .ok (.iload_n 3, 1) := by decide +kernel
theorem dX1_placeOf_102 : decode cX1_placeOf 102 = .ok (.ireturn, 1) := by decide +kernel
theorem dX1_endsLine_0 : decode cX1_endsLine 0 = .ok (.aload_n 0, 1) := by decide +kernel
theorem dX1_endsLine_1 : decode cX1_endsLine 1 = .ok (.getfield 15, 3) := by decide +kernel
theorem dX1_endsLine_4 : decode cX1_endsLine 4 = .ok (.iload_n 1, 1) := by decide +kernel
theorem dX1_endsLine_5 : decode cX1_endsLine 5 = .ok (.iaload, 1) := by decide +kernel
theorem dX1_endsLine_6 : decode cX1_endsLine 6 = .ok (.bipush 13, 2) := by decide +kernel
theorem dX1_endsLine_8 : decode cX1_endsLine 8 = .ok (.if_icmp .ne 7, 3) := by decide +kernel
theorem dX1_endsLine_11 : decode cX1_endsLine 11 = .ok (.iconst 1, 1) := by decide +kernel
theorem dX1_endsLine_12 : decode cX1_endsLine 12 = .ok (.goto 4, 3) := by decide +kernel
theorem dX1_endsLine_15 : decode cX1_endsLine 15 = .ok (.iconst 0, 1) := by decide +kernel
theorem dX1_endsLine_16 : decode cX1_endsLine 16 = .ok (.istore_n 2, 1) := by decide +kernel
theorem dX1_endsLine_17 : decode cX1_endsLine 17 = .ok (.aload_n 0, 1) := by decide +kernel
theorem dX1_endsLine_18 : decode cX1_endsLine 18 = .ok (.getfield 15, 3) := by decide +kernel
theorem dX1_endsLine_21 : decode cX1_endsLine 21 = .ok (.iload_n 1, 1) := by decide +kernel
theorem dX1_endsLine_22 : decode cX1_endsLine 22 = .ok (.iaload, 1) := by decide +kernel
theorem dX1_endsLine_23 : decode cX1_endsLine 23 = .ok (.bipush 10, 2) := by decide +kernel
theorem dX1_endsLine_25 : decode cX1_endsLine 25 = .ok (.if_icmp .eq 30, 3) := by decide +kernel
theorem dX1_endsLine_28 : decode cX1_endsLine 28 = .ok (.iload_n 2, 1) := by decide +kernel
theorem dX1_endsLine_29 : decode cX1_endsLine 29 = .ok (.ifCond .eq 30, 3) := by decide +kernel
theorem dX1_endsLine_32 : decode cX1_endsLine 32 = .ok (.iload_n 1, 1) := by decide +kernel
theorem dX1_endsLine_33 : decode cX1_endsLine 33 = .ok (.iconst 1, 1) := by decide +kernel
theorem dX1_endsLine_34 : decode cX1_endsLine 34 = .ok (.iadd, 1) := by decide +kernel
theorem dX1_endsLine_35 : decode cX1_endsLine 35 = .ok (.aload_n 0, 1) := by decide +kernel
theorem dX1_endsLine_36 : decode cX1_endsLine 36 = .ok (.getfield 42, 3) := by decide +kernel
theorem dX1_endsLine_39 : decode cX1_endsLine 39 = .ok (.if_icmp .ge 16, 3) := by decide +kernel
theorem dX1_endsLine_42 : decode cX1_endsLine 42 = .ok (.aload_n 0, 1) := by decide +kernel
theorem dX1_endsLine_43 : decode cX1_endsLine 43 = .ok (.getfield 15, 3) := by decide +kernel
theorem dX1_endsLine_46 : decode cX1_endsLine 46 = .ok (.iload_n 1, 1) := by decide +kernel
theorem dX1_endsLine_47 : decode cX1_endsLine 47 = .ok (.iconst 1, 1) := by decide +kernel
theorem dX1_endsLine_48 : decode cX1_endsLine 48 = .ok (.iadd, 1) := by decide +kernel
theorem dX1_endsLine_49 : decode cX1_endsLine 49 = .ok (.iaload, 1) := by decide +kernel
theorem dX1_endsLine_50 : decode cX1_endsLine 50 = .ok (.bipush 10, 2) := by decide +kernel
theorem dX1_endsLine_52 : decode cX1_endsLine 52 = .ok (.if_icmp .eq 7, 3) := by decide +kernel
theorem dX1_endsLine_55 : decode cX1_endsLine 55 = .ok (.iconst 1, 1) := by decide +kernel
theorem dX1_endsLine_56 : decode cX1_endsLine 56 = .ok (.goto 4, 3) := by decide +kernel
theorem dX1_endsLine_59 : decode cX1_endsLine 59 = .ok (.iconst 0, 1) := by decide +kernel
theorem dX1_endsLine_60 : decode cX1_endsLine 60 = .ok (.ireturn, 1) := by decide +kernel
theorem dX1_rewind_0 : decode cX1_rewind 0 = .ok (.aload_n 0, 1) := by decide +kernel
theorem dX1_rewind_1 : decode cX1_rewind 1 = .ok (.iconst 0, 1) := by decide +kernel
theorem dX1_rewind_2 : decode cX1_rewind 2 = .ok (.putfield 111, 3) := by decide +kernel
theorem dX1_rewind_5 : decode cX1_rewind 5 = .ok (.aload_n 0, 1) := by decide +kernel
theorem dX1_rewind_6 : decode cX1_rewind 6 = .ok (.iconst 0, 1) := by decide +kernel
theorem dX1_rewind_7 : decode cX1_rewind 7 = .ok (.putfield 114, 3) := by decide +kernel
theorem dX1_rewind_10 : decode cX1_rewind 10 = .ok (.aload_n 0, 1) := by decide +kernel
theorem dX1_rewind_11 : decode cX1_rewind 11 = .ok (.iconst 0, 1) := by decide +kernel
theorem dX1_rewind_12 : decode cX1_rewind 12 = .ok (.putfield 117, 3) := by decide +kernel
theorem dX1_rewind_15 : decode cX1_rewind 15 = .ok (.return_, 1) := by decide +kernel
theorem dX1_seek_0 : decode cX1_seek 0 = .ok (.aload_n 0, 1) := by decide +kernel
theorem dX1_seek_1 : decode cX1_seek 1 = .ok (.getfield 117, 3) := by decide +kernel
theorem dX1_seek_4 : decode cX1_seek 4 = .ok (.iload_n 1, 1) := by decide +kernel
theorem dX1_seek_5 : decode cX1_seek 5 = .ok (.if_icmp .ge 58, 3) := by decide +kernel
theorem dX1_seek_8 : decode cX1_seek 8 = .ok (.aload_n 0, 1) := by decide +kernel
theorem dX1_seek_9 : decode cX1_seek 9 = .ok (.getfield 117, 3) := by decide +kernel
theorem dX1_seek_12 : decode cX1_seek 12 = .ok (.aload_n 0, 1) := by decide +kernel
theorem dX1_seek_13 : decode cX1_seek 13 = .ok (.getfield 42, 3) := by decide +kernel
theorem dX1_seek_16 : decode cX1_seek 16 = .ok (.if_icmp .ge 47, 3) := by decide +kernel
theorem dX1_seek_19 : decode cX1_seek 19 = .ok (.aload_n 0, 1) := by decide +kernel
theorem dX1_seek_20 : decode cX1_seek 20 = .ok (.aload_n 0, 1) := by decide +kernel
theorem dX1_seek_21 : decode cX1_seek 21 = .ok (.getfield 117, 3) := by decide +kernel
theorem dX1_seek_24 : decode cX1_seek 24 = .ok (.invokevirtual 108, 3) := by decide +kernel
theorem dX1_seek_27 : decode cX1_seek 27 = .ok (.ifCond .eq 23, 3) := by decide +kernel
theorem dX1_seek_30 : decode cX1_seek 30 = .ok (.aload_n 0, 1) := by decide +kernel
theorem dX1_seek_31 : decode cX1_seek 31 = .ok (.dup, 1) := by decide +kernel
theorem dX1_seek_32 : decode cX1_seek 32 = .ok (.getfield 111, 3) := by decide +kernel
theorem dX1_seek_35 : decode cX1_seek 35 = .ok (.iconst 1, 1) := by decide +kernel
theorem dX1_seek_36 : decode cX1_seek 36 = .ok (.iadd, 1) := by decide +kernel
theorem dX1_seek_37 : decode cX1_seek 37 = .ok (.putfield 111, 3) := by decide +kernel
theorem dX1_seek_40 : decode cX1_seek 40 = .ok (.aload_n 0, 1) := by decide +kernel
theorem dX1_seek_41 : decode cX1_seek 41 = .ok (.aload_n 0, 1) := by decide +kernel
theorem dX1_seek_42 : decode cX1_seek 42 = .ok (.getfield 117, 3) := by decide +kernel
theorem dX1_seek_45 : decode cX1_seek 45 = .ok (.iconst 1, 1) := by decide +kernel
theorem dX1_seek_46 : decode cX1_seek 46 = .ok (.iadd, 1) := by decide +kernel
theorem dX1_seek_47 : decode cX1_seek 47 = .ok (.putfield 114, 3) := by decide +kernel
theorem dX1_seek_50 : decode cX1_seek 50 = .ok (.aload_n 0, 1) := by decide +kernel
theorem dX1_seek_51 : decode cX1_seek 51 = .ok (.dup, 1) := by decide +kernel
theorem dX1_seek_52 : decode cX1_seek 52 = .ok (.getfield 117, 3) := by decide +kernel
theorem dX1_seek_55 : decode cX1_seek 55 = .ok (.iconst 1, 1) := by decide +kernel
theorem dX1_seek_56 : decode cX1_seek 56 = .ok (.iadd, 1) := by decide +kernel
theorem dX1_seek_57 : decode cX1_seek 57 = .ok (.putfield 117, 3) := by decide +kernel
theorem dX1_seek_60 : decode cX1_seek 60 = .ok (.goto (-60), 3) := by decide +kernel
theorem dX1_seek_63 : decode cX1_seek 63 = .ok (.return_, 1) := by decide +kernel
def EX1_endsLine : List (Nat × Nat) := []
def EX1_rewind : List (Nat × Nat) := [(3, 14), (3, 15), (3, 16)]
def EX1_seek : List (Nat × Nat) := [(3, 14), (3, 15), (3, 16)]
def EX1_endedBy : List (Nat × Nat) := []
def EX1_earlyFault : List (Nat × Nat) := []
def EX1_sentenceBegin : List (Nat × Nat) := []
def EX1_sentenceEnd : List (Nat × Nat) := []
def EX1_placeOf : List (Nat × Nat) := []
def EX1_part : List (Nat × Nat) := [(3, 4), (8, 3), (12, 3), (101, 0), (102, 0), (132, 0), (133, 0), (171, 0), (172, 0)]
def EX1_decode : List (Nat × Nat) := [(3, 3), (101, 0)]
set_option maxHeartbeats 4000000 in
set_option maxRecDepth 20000 in
theorem uX1_endsLine (l : Launch) (dC : Nat → ClassId) (dI : Nat → Nat → Nat) (ca : Nat → ClassId) (base : Nat) (B : jF) (hB : jBok B) (hAp : jAp (dC, dI)) (hB3 : ∀ n G a H, B 3 n G a H ↔ jOb (dC, dI) 3 17 (F3 n G) a H) (hB101 : ∀ n G a H, B 101 n G a H ↔ jAr (dC, dI) (ca 1) (fun j z => True) n a H) (G0 : jT) (H0 : Heap) (r0 : Nat) (a1 : Int32) (n0 : Nat) (pl : Int32) : Met l yX1_endsLine (jw yX1_endsLine cX1_endsLine 3 (some .boolean)) ({ frames := 0, cells := 0, slots := 0, locals := 0 }) (va_Pc [.ref r0, .int a1] (fun U => U.heap = H0 ∧ jX B base G0 [] H0 ∧ jG dC dI ca base U ∧ G0 r0 = some (3, n0) ∧ jP (dC, dI) G0 H0 [(r0, 3, 3, .int pl)] ∧ 0 ≤ a1.toInt ∧ a1.toInt < pl.toInt ∧ pl.toInt ≤ 1500)) (va_Qi (S := Unit) (fun r u => (r = 0 ∨ r = 1) ∧ (True)) (fun u t => jRt (dC, dI) B base G0 EX1_endsLine H0 [] t.heap) (jA base)) 0 0 (jA base) := by
  refine Met.ofW (cc := cX1_endsLine) (maxL := 3) (ret := (some .boolean)) (by decide) rfl ?_
  intro p e s m args below meth c s₁ Bd hml hv
  obtain ⟨rfl, hH0, hX, hG, hg_r0, hP0, hp0, hp1, hp2⟩ := hv
  have hK := hG.1
  have hx := Bd.exec
  have hb := Bd.bytes
  have hr := Bd.returns
  have hts := atoms_spec (ws := (jw yX1_endsLine cX1_endsLine 3 (some .boolean))) Bd.pre
  have htw : ∀ w ∈ jWl, w.before _ s = true := fun w h => hts w (List.mem_cons_of_mem _ h)
  have hown : s.vm.findClass RX1 = some m.cls := findClass_of_methodNamed Bd.named
  have hlocks := Bd.notSynchronized
  obtain ⟨Q, hQ⟩ : ∃ Q, Q = MQ below (va_Qi (S := Unit) (fun r u => (r = 0 ∨ r = 1) ∧ (True)) (fun u t => jRt (dC, dI) B base G0 EX1_endsLine H0 [] t.heap) (jA base)) ([.ref r0, .int a1] : List Value).toArray s 0 0 (jA base) := ⟨_, rfl⟩
  rw [← hQ]
  have hl := lv_entry ([.ref r0, .int a1]) (n := 3) (Nat.le_of_ble_eq_true rfl)
  rw [lg_entry_eq]
  generalize (lg_sl ([.ref r0, .int a1]) ++ List.replicate (3 - (lg_sl ([.ref r0, .int a1])).length) Slot.unset).toArray = ls at hl ⊢
  have hl : lv_has ls 3 [(0, .ref r0), (1, .int a1)] := hl
  generalize hR : (headSpec (jw yX1_endsLine cX1_endsLine 3 (some .boolean)) ({ frames := 0, cells := 0, slots := 0, locals := 0 })).room = R
  subst hH0
  have hh : jSt (dC, dI) B base G0 G0 EX1_endsLine s.heap 0 0 [(r0, 3, 3, .int pl)] [] [] s.heap [] := jSt.start hX hP0 jMc.nil jIs.nil
  clear hX hP0
  have hk0 : (0 : Int32).toInt = 0 := by decide
  have hk1 : (1 : Int32).toInt = 1 := by decide
  have hk10 : (10 : Int32).toInt = 10 := by decide
  have hk13 : (13 : Int32).toInt = 13 := by decide
  have hly_3_2 := htw (u_lay RX1 TX1 2) (jWc_wsX10 _ (u_in_lay (by decide)))
  have hly_3_3 := htw (u_lay RX1 TX1 3) (jWc_wsX10 _ (u_in_lay (by decide)))
  have hlk_15 := (htw (.fieldLink RX1 15 "ProofServer$Document" "text" "[I") (jWr_10 _ (List.mem_of_getElem? (i := 6) rfl)))
  have hlk_42 := (htw (.fieldLink RX1 42 "ProofServer$Document" "length" "I") (jWr_29 _ (List.mem_of_getElem? (i := 5) rfl)))
  have hrg_a1 := jb_rng a1
  refine lv_aload_n hx hb dX1_endsLine_0 rfl (lv_at hl 0 rfl) ?_
  obtain ⟨v_1, hv_1, hh_2⟩ := hh.pin (C := RX1) (T := TX1) (N := 17) hB3 rfl (by decide) hg_r0 (i := 2) (by decide) rfl
  clear hh
  obtain ⟨text_3, rfl, hg_text_3⟩ := hv_1
  refine j7_read hx hb hown hK (C := RX1) (T := TX1) (N := 17) rfl hly_3_2 hlk_15 (hh_2.at 0 rfl) dX1_endsLine_1 ?_
  refine lv_iload_n hx hb dX1_endsLine_4 rfl (lv_at hl 1 rfl) ?_
  refine j7_iald hx hb hK hh_2 hB101 1 rfl (by decide) hg_text_3 (x := a1.toInt) (rfl) (by omega) dX1_endsLine_5 (fun z_4 (hz_4 : True) => ?_)
  refine lv_bipush (v := 13) hx hb dX1_endsLine_6 (by decide) ?_
  have C16 : ∀ (w0_5 : Int32) (H_5 : Heap) (locs_5 : List Loc), jSt (dC, dI) B base G0 G0 EX1_endsLine s.heap 0 0 [(r0, 3, 2, .ref text_3), (r0, 3, 3, .int pl)] [] [] H_5 locs_5 → (w0_5 = 0 ∨ w0_5 = 1) → (True) → ∀ ls : Array Slot, lv_has ls 3 [(0, .ref r0), (1, .int a1)] → W p l e R s m ([.ref r0, .int a1] : List Value).toArray below meth c H_5 locs_5 0 0 Q (F0 m 16 ls [.int w0_5]) := by
    intro w0_5 H_5 locs_5 hh_5 hb_w0_5 hi_5 ls hl
    have hb_w0_5' := jb_01 hb_w0_5
    refine lv_istore_n (lv' := [(2, .int w0_5), (0, .ref r0), (1, .int a1)]) hx hb dX1_endsLine_16 rfl hl (by decide) rfl (fun ls hl => ?_)
    refine lv_aload_n hx hb dX1_endsLine_17 rfl (lv_at hl 1 rfl) ?_
    refine j7_read hx hb hown hK (C := RX1) (T := TX1) (N := 17) rfl hly_3_2 hlk_15 (hh_5.at 0 rfl) dX1_endsLine_18 ?_
    refine lv_iload_n hx hb dX1_endsLine_21 rfl (lv_at hl 2 rfl) ?_
    refine j7_iald hx hb hK hh_5 hB101 1 rfl (by decide) hg_text_3 (x := a1.toInt) (rfl) (by omega) dX1_endsLine_22 (fun z_6 (hz_6 : True) => ?_)
    refine lv_bipush (v := 10) hx hb dX1_endsLine_23 (by decide) ?_
    refine lv_icmp_eq (tgt := 55) hx hb dX1_endsLine_25 (by decide) (fun c_7 => ?_) (fun c_7 => ?_)
    · skip
      have c_7' : z_6.toInt = 10 := jb_eq (rfl) ((by decide)) c_7
      refine lv_iconst (v := 1) hx hb dX1_endsLine_55 (by decide) ?_
      refine lv_goto (tgt := 60) hx hb dX1_endsLine_56 (by decide) ?_
      rw [hQ]
      exact W.zret (v := 1) hx hb hr (jb_nz (Or.inr rfl)) (fun t ht hW => ⟨⟨1, (), rfl, ⟨(Or.inr rfl), trivial⟩, hh_5.rt (M1 := []) [] rfl ht⟩, by rw [ht]; try exact hh_5.1.1, fun q h9 hq => by rw [ht]; try exact hh_5.1.2.1 q h9 hq⟩) hh_5.1.2.2 dX1_endsLine_60
    · skip
      have c_7' : z_6.toInt ≠ 10 := jb_eq_n (rfl) ((by decide)) c_7
      refine lv_iload_n hx hb dX1_endsLine_28 rfl (lv_at hl 0 rfl) ?_
      refine lv_if_eq (tgt := 59) hx hb dX1_endsLine_29 (by decide) (fun c_8 => ?_) (fun c_8 => ?_)
      · skip
        have c_8' : w0_5.toInt = 0 := jb_eq (rfl) ((by decide)) c_8
        refine lv_iconst (v := 0) hx hb dX1_endsLine_59 (by decide) ?_
        rw [hQ]
        exact W.zret (v := 0) hx hb hr (jb_nz (Or.inl rfl)) (fun t ht hW => ⟨⟨0, (), rfl, ⟨(Or.inl rfl), trivial⟩, hh_5.rt (M1 := []) [] rfl ht⟩, by rw [ht]; try exact hh_5.1.1, fun q h9 hq => by rw [ht]; try exact hh_5.1.2.1 q h9 hq⟩) hh_5.1.2.2 dX1_endsLine_60
      · skip
        have c_8' : w0_5.toInt ≠ 0 := jb_eq_n (rfl) ((by decide)) c_8
        refine lv_iload_n hx hb dX1_endsLine_32 rfl (lv_at hl 2 rfl) ?_
        refine lv_iconst (v := 1) hx hb dX1_endsLine_33 (by decide) ?_
        refine lv_iadd hx hb dX1_endsLine_34 ?_
        refine lv_topi (fun z_9 ez_9 => ?_)
        have hz_9 : z_9.toInt = a1.toInt + 1 := by rw [ez_9]; exact jb_iadd2 (rfl) ((by decide)) (by omega)
        refine lv_aload_n hx hb dX1_endsLine_35 rfl (lv_at hl 1 rfl) ?_
        refine j7_read hx hb hown hK (C := RX1) (T := TX1) (N := 17) rfl hly_3_3 hlk_42 (hh_5.at 1 rfl) dX1_endsLine_36 ?_
        refine lv_icmp_ge (tgt := 55) hx hb dX1_endsLine_39 (by decide) (fun c_10 => ?_) (fun c_10 => ?_)
        · skip
          have c_10' : z_9.toInt ≥ pl.toInt := jb_ge (rfl) (rfl) c_10
          refine lv_iconst (v := 1) hx hb dX1_endsLine_55 (by decide) ?_
          refine lv_goto (tgt := 60) hx hb dX1_endsLine_56 (by decide) ?_
          rw [hQ]
          exact W.zret (v := 1) hx hb hr (jb_nz (Or.inr rfl)) (fun t ht hW => ⟨⟨1, (), rfl, ⟨(Or.inr rfl), trivial⟩, hh_5.rt (M1 := []) [] rfl ht⟩, by rw [ht]; try exact hh_5.1.1, fun q h9 hq => by rw [ht]; try exact hh_5.1.2.1 q h9 hq⟩) hh_5.1.2.2 dX1_endsLine_60
        · skip
          have c_10' : z_9.toInt < pl.toInt := jb_ge_n (rfl) (rfl) c_10
          refine lv_aload_n hx hb dX1_endsLine_42 rfl (lv_at hl 1 rfl) ?_
          refine j7_read hx hb hown hK (C := RX1) (T := TX1) (N := 17) rfl hly_3_2 hlk_15 (hh_5.at 0 rfl) dX1_endsLine_43 ?_
          refine lv_iload_n hx hb dX1_endsLine_46 rfl (lv_at hl 2 rfl) ?_
          refine lv_iconst (v := 1) hx hb dX1_endsLine_47 (by decide) ?_
          refine lv_iadd hx hb dX1_endsLine_48 ?_
          refine lv_topi (fun z_11 ez_11 => ?_)
          have hz_11 : z_11.toInt = a1.toInt + 1 := by rw [ez_11]; exact jb_iadd2 (rfl) ((by decide)) (by omega)
          refine j7_iald hx hb hK hh_5 hB101 1 rfl (by decide) hg_text_3 (x := z_11.toInt) (rfl) (by omega) dX1_endsLine_49 (fun z_12 (hz_12 : True) => ?_)
          refine lv_bipush (v := 10) hx hb dX1_endsLine_50 (by decide) ?_
          refine lv_icmp_eq (tgt := 59) hx hb dX1_endsLine_52 (by decide) (fun c_13 => ?_) (fun c_13 => ?_)
          · skip
            have c_13' : z_12.toInt = 10 := jb_eq (rfl) ((by decide)) c_13
            refine lv_iconst (v := 0) hx hb dX1_endsLine_59 (by decide) ?_
            rw [hQ]
            exact W.zret (v := 0) hx hb hr (jb_nz (Or.inl rfl)) (fun t ht hW => ⟨⟨0, (), rfl, ⟨(Or.inl rfl), trivial⟩, hh_5.rt (M1 := []) [] rfl ht⟩, by rw [ht]; try exact hh_5.1.1, fun q h9 hq => by rw [ht]; try exact hh_5.1.2.1 q h9 hq⟩) hh_5.1.2.2 dX1_endsLine_60
          · skip
            have c_13' : z_12.toInt ≠ 10 := jb_eq_n (rfl) ((by decide)) c_13
            refine lv_iconst (v := 1) hx hb dX1_endsLine_55 (by decide) ?_
            refine lv_goto (tgt := 60) hx hb dX1_endsLine_56 (by decide) ?_
            rw [hQ]
            exact W.zret (v := 1) hx hb hr (jb_nz (Or.inr rfl)) (fun t ht hW => ⟨⟨1, (), rfl, ⟨(Or.inr rfl), trivial⟩, hh_5.rt (M1 := []) [] rfl ht⟩, by rw [ht]; try exact hh_5.1.1, fun q h9 hq => by rw [ht]; try exact hh_5.1.2.1 q h9 hq⟩) hh_5.1.2.2 dX1_endsLine_60
  refine lv_icmp_ne (tgt := 15) hx hb dX1_endsLine_8 (by decide) (fun c_14 => ?_) (fun c_14 => ?_)
  · skip
    have c_14' : z_4.toInt ≠ 13 := jb_ne (rfl) ((by decide)) c_14
    refine lv_iconst (v := 0) hx hb dX1_endsLine_15 (by decide) ?_
    exact C16 0 _ _ hh_2 (Or.inl rfl) (trivial) _ (lv_sub hl [0, 1] rfl)
  · skip
    have c_14' : z_4.toInt = 13 := jb_ne_n (rfl) ((by decide)) c_14
    refine lv_iconst (v := 1) hx hb dX1_endsLine_11 (by decide) ?_
    refine lv_goto (tgt := 16) hx hb dX1_endsLine_12 (by decide) ?_
    exact C16 1 _ _ hh_2 (Or.inr rfl) (trivial) _ (lv_sub hl [0, 1] rfl)
set_option maxHeartbeats 4000000 in
set_option maxRecDepth 20000 in
theorem uX1_rewind (l : Launch) (dC : Nat → ClassId) (dI : Nat → Nat → Nat) (ca : Nat → ClassId) (base : Nat) (B : jF) (hB : jBok B) (hAp : jAp (dC, dI)) (hB3 : ∀ n G a H, B 3 n G a H ↔ jOb (dC, dI) 3 17 (F3 n G) a H) (G0 : jT) (H0 : Heap) (r0 : Nat) : Met l yX1_rewind (jw yX1_rewind cX1_rewind 1 none) ({ frames := 0, cells := 0, slots := 0, locals := 0 }) (va_Pc [.ref r0] (fun U => U.heap = H0 ∧ jX B base G0 [] H0 ∧ jG dC dI ca base U ∧ G0 r0 = some (3, 0) ∧ jP (dC, dI) G0 H0 [] ∧ True)) (va_Qv (S := Unit) (fun u => True) (fun u t => jRt (dC, dI) B base G0 EX1_rewind H0 [] t.heap) (jA base)) 0 0 (jA base) := by
  refine Met.ofW (cc := cX1_rewind) (maxL := 1) (ret := none) (by decide) rfl ?_
  intro p e s m args below meth c s₁ Bd hml hv
  obtain ⟨rfl, hH0, hX, hG, hg_r0, hP0, hp0⟩ := hv
  have hK := hG.1
  have hx := Bd.exec
  have hb := Bd.bytes
  have hr := Bd.returns
  have hts := atoms_spec (ws := (jw yX1_rewind cX1_rewind 1 none)) Bd.pre
  have htw : ∀ w ∈ jWl, w.before _ s = true := fun w h => hts w (List.mem_cons_of_mem _ h)
  have hown : s.vm.findClass RX1 = some m.cls := findClass_of_methodNamed Bd.named
  have hlocks := Bd.notSynchronized
  obtain ⟨Q, hQ⟩ : ∃ Q, Q = MQ below (va_Qv (S := Unit) (fun u => True) (fun u t => jRt (dC, dI) B base G0 EX1_rewind H0 [] t.heap) (jA base)) ([.ref r0] : List Value).toArray s 0 0 (jA base) := ⟨_, rfl⟩
  rw [← hQ]
  have hl := lv_entry ([.ref r0]) (n := 1) (Nat.le_of_ble_eq_true rfl)
  rw [lg_entry_eq]
  generalize (lg_sl ([.ref r0]) ++ List.replicate (1 - (lg_sl ([.ref r0])).length) Slot.unset).toArray = ls at hl ⊢
  have hl : lv_has ls 1 [(0, .ref r0)] := hl
  generalize hR : (headSpec (jw yX1_rewind cX1_rewind 1 none) ({ frames := 0, cells := 0, slots := 0, locals := 0 })).room = R
  subst hH0
  have hh : jSt (dC, dI) B base G0 G0 EX1_rewind s.heap 0 0 [] [] [] s.heap [] := jSt.start hX hP0 jMc.nil jIs.nil
  clear hX hP0
  have hk0 : (0 : Int32).toInt = 0 := by decide
  have hk1 : (1 : Int32).toInt = 1 := by decide
  have hly_3_14 := htw (u_lay RX1 TX1 14) (jWc_wsX10 _ (u_in_lay (by decide)))
  have hly_3_15 := htw (u_lay RX1 TX1 15) (jWc_wsX10 _ (u_in_lay (by decide)))
  have hly_3_16 := htw (u_lay RX1 TX1 16) (jWc_wsX10 _ (u_in_lay (by decide)))
  have hlk_111 := (htw (.fieldLink RX1 111 "ProofServer$Document" "line" "I") (jWr_40 _ (List.mem_of_getElem? (i := 6) rfl)))
  have hlk_114 := (htw (.fieldLink RX1 114 "ProofServer$Document" "lineStart" "I") (jWr_40 _ (List.mem_of_getElem? (i := 7) rfl)))
  have hlk_117 := (htw (.fieldLink RX1 117 "ProofServer$Document" "cursor" "I") (jWr_40 _ (List.mem_of_getElem? (i := 8) rfl)))
  refine lv_aload_n hx hb dX1_rewind_0 rfl (lv_at hl 0 rfl) ?_
  refine lv_iconst (v := 0) hx hb dX1_rewind_1 (by decide) ?_
  refine j7_put hx hb hown hK hh hB hAp hB3 (C := RX1) (T := TX1) (N := 17) rfl (by decide) hg_r0 (i := 14) (by decide) hly_3_14 rfl hlk_111 rfl (ty := .int) (v := .int 0) (by decide +kernel) rfl rfl (⟨_, rfl⟩) rfl (L1 := []) [] rfl rfl rfl dX1_rewind_2 (fun H_1 locs_1 hh_1 => ?_)
  clear hh
  refine lv_aload_n hx hb dX1_rewind_5 rfl (lv_at hl 0 rfl) ?_
  refine lv_iconst (v := 0) hx hb dX1_rewind_6 (by decide) ?_
  refine j7_put hx hb hown hK hh_1 hB hAp hB3 (C := RX1) (T := TX1) (N := 17) rfl (by decide) hg_r0 (i := 15) (by decide) hly_3_15 rfl hlk_114 rfl (ty := .int) (v := .int 0) (by decide +kernel) rfl rfl (⟨_, rfl⟩) rfl (L1 := [(r0, 3, 14, .int 0)]) [0] rfl rfl rfl dX1_rewind_7 (fun H_2 locs_2 hh_2 => ?_)
  clear hh_1
  refine lv_aload_n hx hb dX1_rewind_10 rfl (lv_at hl 0 rfl) ?_
  refine lv_iconst (v := 0) hx hb dX1_rewind_11 (by decide) ?_
  refine j7_put hx hb hown hK hh_2 hB hAp hB3 (C := RX1) (T := TX1) (N := 17) rfl (by decide) hg_r0 (i := 16) (by decide) hly_3_16 rfl hlk_117 rfl (ty := .int) (v := .int 0) (by decide +kernel) rfl rfl (⟨_, rfl, by omega, by omega⟩) rfl (L1 := [(r0, 3, 15, .int 0), (r0, 3, 14, .int 0)]) [0, 1] rfl rfl rfl dX1_rewind_12 (fun H_3 locs_3 hh_3 => ?_)
  clear hh_2
  rw [hQ]
  exact W.vret hx hb hr (fun t ht hW => ⟨⟨(), rfl, trivial, hh_3.rt (M1 := []) [] rfl ht⟩, by rw [ht]; try exact hh_3.1.1, fun q h9 hq => by rw [ht]; try exact hh_3.1.2.1 q h9 hq⟩) hh_3.1.2.2 dX1_rewind_15
set_option maxHeartbeats 4000000 in
set_option maxRecDepth 20000 in
theorem uX1_seek (l : Launch) (dC : Nat → ClassId) (dI : Nat → Nat → Nat) (ca : Nat → ClassId) (base : Nat) (B : jF) (hB : jBok B) (hAp : jAp (dC, dI)) (hB3 : ∀ n G a H, B 3 n G a H ↔ jOb (dC, dI) 3 17 (F3 n G) a H) (hB101 : ∀ n G a H, B 101 n G a H ↔ jAr (dC, dI) (ca 1) (fun j z => True) n a H) (G0 : jT) (H0 : Heap) (r0 : Nat) (a1 : Int32) (n0 : Nat) : Met l yX1_seek (jw yX1_seek cX1_seek 2 none) ({ frames := 1, cells := 0, slots := 0, locals := 22 }) (va_Pc [.ref r0, .int a1] (fun U => U.heap = H0 ∧ jX B base G0 [] H0 ∧ jG dC dI ca base U ∧ G0 r0 = some (3, n0) ∧ jP (dC, dI) G0 H0 [] ∧ True)) (va_Qv (S := Unit) (fun u => True) (fun u t => jRt (dC, dI) B base G0 EX1_seek H0 [] t.heap) (jA base)) 0 0 (jA base) := by
  refine Met.ofW (cc := cX1_seek) (maxL := 2) (ret := none) (by decide) rfl ?_
  intro p e s m args below meth c s₁ Bd hml hv
  obtain ⟨rfl, hH0, hX, hG, hg_r0, hP0, hp0⟩ := hv
  have hK := hG.1
  have hx := Bd.exec
  have hb := Bd.bytes
  have hr := Bd.returns
  have hts := atoms_spec (ws := (jw yX1_seek cX1_seek 2 none)) Bd.pre
  have htw : ∀ w ∈ jWl, w.before _ s = true := fun w h => hts w (List.mem_cons_of_mem _ h)
  have hown : s.vm.findClass RX1 = some m.cls := findClass_of_methodNamed Bd.named
  have hlocks := Bd.notSynchronized
  obtain ⟨Q, hQ⟩ : ∃ Q, Q = MQ below (va_Qv (S := Unit) (fun u => True) (fun u t => jRt (dC, dI) B base G0 EX1_seek H0 [] t.heap) (jA base)) ([.ref r0, .int a1] : List Value).toArray s 0 0 (jA base) := ⟨_, rfl⟩
  rw [← hQ]
  have hl := lv_entry ([.ref r0, .int a1]) (n := 2) (Nat.le_of_ble_eq_true rfl)
  rw [lg_entry_eq]
  generalize (lg_sl ([.ref r0, .int a1]) ++ List.replicate (2 - (lg_sl ([.ref r0, .int a1])).length) Slot.unset).toArray = ls at hl ⊢
  have hl : lv_has ls 2 [(0, .ref r0), (1, .int a1)] := hl
  generalize hR : (headSpec (jw yX1_seek cX1_seek 2 none) ({ frames := 1, cells := 0, slots := 0, locals := 22 })).room = R
  subst hH0
  have hh : jSt (dC, dI) B base G0 G0 EX1_seek s.heap 0 0 [] [] [] s.heap [] := jSt.start hX hP0 jMc.nil jIs.nil
  clear hX hP0
  have hk0 : (0 : Int32).toInt = 0 := by decide
  have hk1 : (1 : Int32).toInt = 1 := by decide
  have hly_3_3 := htw (u_lay RX1 TX1 3) (jWc_wsX10 _ (u_in_lay (by decide)))
  have hly_3_14 := htw (u_lay RX1 TX1 14) (jWc_wsX10 _ (u_in_lay (by decide)))
  have hly_3_15 := htw (u_lay RX1 TX1 15) (jWc_wsX10 _ (u_in_lay (by decide)))
  have hly_3_16 := htw (u_lay RX1 TX1 16) (jWc_wsX10 _ (u_in_lay (by decide)))
  have hlk_117 := (htw (.fieldLink RX1 117 "ProofServer$Document" "cursor" "I") (jWr_40 _ (List.mem_of_getElem? (i := 8) rfl)))
  have hlk_42 := (htw (.fieldLink RX1 42 "ProofServer$Document" "length" "I") (jWr_29 _ (List.mem_of_getElem? (i := 5) rfl)))
  have hlk_111 := (htw (.fieldLink RX1 111 "ProofServer$Document" "line" "I") (jWr_40 _ (List.mem_of_getElem? (i := 6) rfl)))
  have hlk_114 := (htw (.fieldLink RX1 114 "ProofServer$Document" "lineStart" "I") (jWr_40 _ (List.mem_of_getElem? (i := 7) rfl)))
  have hrg_a1 := jb_rng a1
  obtain ⟨v_1, hv_1, hh_2⟩ := hh.pin (C := RX1) (T := TX1) (N := 17) hB3 rfl (by decide) hg_r0 (i := 3) (by decide) rfl
  obtain ⟨length_3, rfl, hlolength_3, hhilength_3⟩ := hv_1
  have L0 : ∀ (N : Nat) (wc_4 : Int32) (H_4 : Heap) (locs_4 : List Loc), jSt (dC, dI) B base G0 G0 EX1_seek s.heap 0 0 [(r0, 3, 16, .int wc_4), (r0, 3, 3, .int length_3)] [] [] H_4 locs_4 → (0 ≤ wc_4.toInt ∧ wc_4.toInt ≤ 1500) → (((length_3.toInt - wc_4.toInt).toNat : Int) : Int) < N → ∀ ls : Array Slot, lv_has ls 2 [(0, .ref r0), (1, .int a1)] → W p l e R s m ([.ref r0, .int a1] : List Value).toArray below meth c H_4 locs_4 0 0 Q (F0 m 0 ls []) := by
    intro N
    induction N with
    | zero => intro wc_4 H_4 locs_4 hh_4  hi_4 hm; exact absurd hm (by omega)
    | succ N L0 =>
      intro wc_4 H_4 locs_4 hh_4  hi_4 hm_4 ls hl
      obtain ⟨hi_4_0, hi_4_1⟩ := hi_4
      refine lv_aload_n hx hb dX1_seek_0 rfl (lv_at hl 0 rfl) ?_
      refine j7_read hx hb hown hK (C := RX1) (T := TX1) (N := 17) rfl hly_3_16 hlk_117 (hh_4.at 0 rfl) dX1_seek_1 ?_
      refine lv_iload_n hx hb dX1_seek_4 rfl (lv_at hl 1 rfl) ?_
      refine lv_icmp_ge (tgt := 63) hx hb dX1_seek_5 (by decide) (fun c_5 => ?_) (fun c_5 => ?_)
      · skip
        have c_5' : wc_4.toInt ≥ a1.toInt := jb_ge (rfl) (rfl) c_5
        rw [hQ]
        exact W.vret hx hb hr (fun t ht hW => ⟨⟨(), rfl, trivial, hh_4.rt (M1 := []) [] rfl ht⟩, by rw [ht]; try exact hh_4.1.1, fun q h9 hq => by rw [ht]; try exact hh_4.1.2.1 q h9 hq⟩) hh_4.1.2.2 dX1_seek_63
      · skip
        have c_5' : wc_4.toInt < a1.toInt := jb_ge_n (rfl) (rfl) c_5
        refine lv_aload_n hx hb dX1_seek_8 rfl (lv_at hl 0 rfl) ?_
        refine j7_read hx hb hown hK (C := RX1) (T := TX1) (N := 17) rfl hly_3_16 hlk_117 (hh_4.at 0 rfl) dX1_seek_9 ?_
        refine lv_aload_n hx hb dX1_seek_12 rfl (lv_at hl 0 rfl) ?_
        refine j7_read hx hb hown hK (C := RX1) (T := TX1) (N := 17) rfl hly_3_3 hlk_42 (hh_4.at 1 rfl) dX1_seek_13 ?_
        refine lv_icmp_ge (tgt := 63) hx hb dX1_seek_16 (by decide) (fun c_6 => ?_) (fun c_6 => ?_)
        · skip
          have c_6' : wc_4.toInt ≥ length_3.toInt := jb_ge (rfl) (rfl) c_6
          rw [hQ]
          exact W.vret hx hb hr (fun t ht hW => ⟨⟨(), rfl, trivial, hh_4.rt (M1 := []) [] rfl ht⟩, by rw [ht]; try exact hh_4.1.1, fun q h9 hq => by rw [ht]; try exact hh_4.1.2.1 q h9 hq⟩) hh_4.1.2.2 dX1_seek_63
        · skip
          have c_6' : wc_4.toInt < length_3.toInt := jb_ge_n (rfl) (rfl) c_6
          refine lv_aload_n hx hb dX1_seek_19 rfl (lv_at hl 0 rfl) ?_
          refine lv_aload_n hx hb dX1_seek_20 rfl (lv_at hl 0 rfl) ?_
          refine j7_read hx hb hown hK (C := RX1) (T := TX1) (N := 17) rfl hly_3_16 hlk_117 (hh_4.at 0 rfl) dX1_seek_21 ?_
          refine va_calli (A0 := jA base) (H0 := s.heap) (va_runV (As := [.int wc_4]) (rest := []) ⟨hx, hb, hml, hown, hts⟩ (uX1_endsLine l dC dI ca base B hB hAp hB3 hB101 G0 H_4 r0 wc_4 n0 length_3) (cwV 1 hts (jgV (jWr_29 _ (List.mem_of_getElem? (i := 6) rfl)) (jWr_29 _ (List.mem_of_getElem? (i := 7) rfl)) (jWr_29 _ (List.mem_of_getElem? (i := 8) rfl)) (jWr_2 _ (List.mem_of_getElem? (i := 21) rfl)) (jWr_29 _ (List.mem_of_getElem? (i := 9) rfl))) rfl rfl rfl (by decide +kernel) ⟨by rw [← hR]; exact Nat.le_of_ble_eq_true rfl, by rw [← hR]; exact Nat.le_of_ble_eq_true rfl⟩) ⟨fun a U g mk q => by obtain ⟨q0, q1, q2, qK, q10, q11, q12⟩ := q; exact ⟨q0, q1, q2, jG.calling g mk a qK, q10, q11, q12⟩, hh_4.recv (C := RX1) (T := TX1) (N := 17) hB3 rfl (by decide) hg_r0 hK, fun U hU hW => ⟨rfl, hU, hh_4.2.1, hG.step hW hU hh_4.1, hg_r0, (hh_4.2.2.1.sub (L1 := [(r0, 3, 3, .int length_3)]) [1] rfl), by first | omega | (refine ⟨?_, ?_, ?_⟩ <;> (first | omega | rfl | assumption | decide | exact Or.inl rfl | exact Or.inr rfl | (simp only; omega)))⟩⟩ rfl rfl hl.1 rfl (lv_room (Nat.le_of_ble_eq_true rfl)) dX1_seek_24 ⟨Nat.zero_le _, Nat.zero_le _⟩) hh_4.1 (fun q _ h => h) (fun q h => h) (fun r_8 u_7 t_7 H_7 locs_7 ht_7 hvm_7 hr_8 hb_7 hz_7 hk_7 hS_7 => ?_)
          rw [ht_7] at hb_7
          obtain ⟨hb_71, hb_72, hb_73, hb_74, hb_75⟩ := hb_7
          have hh_7 : jSt (dC, dI) B base G0 G0 EX1_seek s.heap 0 0 [(r0, 3, 16, .int wc_4), (r0, 3, 3, .int length_3)] [] [] H_7 locs_7 := ((hh_4.call hb_71 hb_72 hb_73 hb_74 hS_7 rfl (L1 := [(r0, 3, 16, .int wc_4), (r0, 3, 3, .int length_3)]) [0, 1] rfl rfl (M1 := []) [] rfl rfl (I1 := []) [] rfl rfl).more hb_75)
          clear hh_4 ht_7 hvm_7 hz_7 hk_7 hS_7 hb_71 hb_72 hb_73 hb_74 hb_75
          obtain ⟨hr_8b, hr_8p⟩ := hr_8
          have hr_8' := jb_01 hr_8b
          refine lv_if_eq (tgt := 50) hx hb dX1_seek_27 (by decide) (fun c_9 => ?_) (fun c_9 => ?_)
          · skip
            have c_9' : r_8.toInt = 0 := jb_eq (rfl) ((by decide)) c_9
            refine lv_aload_n hx hb dX1_seek_50 rfl (lv_at hl 0 rfl) ?_
            refine lv_dup hx hb dX1_seek_51 rfl ?_
            refine j7_read hx hb hown hK (C := RX1) (T := TX1) (N := 17) rfl hly_3_16 hlk_117 (hh_7.at 0 rfl) dX1_seek_52 ?_
            refine lv_iconst (v := 1) hx hb dX1_seek_55 (by decide) ?_
            refine lv_iadd hx hb dX1_seek_56 ?_
            refine lv_topi (fun z_10 ez_10 => ?_)
            have hz_10 : z_10.toInt = wc_4.toInt + 1 := by rw [ez_10]; exact jb_iadd2 (rfl) ((by decide)) (by omega)
            refine j7_put hx hb hown hK hh_7 hB hAp hB3 (C := RX1) (T := TX1) (N := 17) rfl (by decide) hg_r0 (i := 16) (by decide) hly_3_16 rfl hlk_117 rfl (ty := .int) (v := .int z_10) (by decide +kernel) rfl rfl (⟨_, rfl, by omega, by omega⟩) rfl (L1 := [(r0, 3, 3, .int length_3)]) [1] rfl rfl rfl dX1_seek_57 (fun H_11 locs_11 hh_11 => ?_)
            clear hh_7
            refine lv_goto (tgt := 0) hx hb dX1_seek_60 (by decide) ?_
            exact L0 z_10 _ _ hh_11 (by first | omega | (refine ⟨?_, ?_⟩ <;> (first | omega | rfl | assumption | decide | exact Or.inl rfl | exact Or.inr rfl | (simp only; omega)))) (by omega) _ (lv_sub hl [0, 1] rfl)
          · skip
            have c_9' : r_8.toInt ≠ 0 := jb_eq_n (rfl) ((by decide)) c_9
            refine lv_aload_n hx hb dX1_seek_30 rfl (lv_at hl 0 rfl) ?_
            refine lv_dup hx hb dX1_seek_31 rfl ?_
            obtain ⟨v_12, hv_12, hh_13⟩ := hh_7.pin (C := RX1) (T := TX1) (N := 17) hB3 rfl (by decide) hg_r0 (i := 14) (by decide) rfl
            clear hh_7
            obtain ⟨line_14, rfl⟩ := hv_12
            refine j7_read hx hb hown hK (C := RX1) (T := TX1) (N := 17) rfl hly_3_14 hlk_111 (hh_13.at 0 rfl) dX1_seek_32 ?_
            refine lv_iconst (v := 1) hx hb dX1_seek_35 (by decide) ?_
            refine lv_iadd hx hb dX1_seek_36 ?_
            refine lv_topi (fun z_15 ez_15 => ?_)
            refine j7_put hx hb hown hK hh_13 hB hAp hB3 (C := RX1) (T := TX1) (N := 17) rfl (by decide) hg_r0 (i := 14) (by decide) hly_3_14 rfl hlk_111 rfl (ty := .int) (v := .int z_15) (by decide +kernel) rfl rfl (⟨_, rfl⟩) rfl (L1 := [(r0, 3, 16, .int wc_4), (r0, 3, 3, .int length_3)]) [1, 2] rfl rfl rfl dX1_seek_37 (fun H_16 locs_16 hh_16 => ?_)
            clear hh_13
            refine lv_aload_n hx hb dX1_seek_40 rfl (lv_at hl 0 rfl) ?_
            refine lv_aload_n hx hb dX1_seek_41 rfl (lv_at hl 0 rfl) ?_
            refine j7_read hx hb hown hK (C := RX1) (T := TX1) (N := 17) rfl hly_3_16 hlk_117 (hh_16.at 1 rfl) dX1_seek_42 ?_
            refine lv_iconst (v := 1) hx hb dX1_seek_45 (by decide) ?_
            refine lv_iadd hx hb dX1_seek_46 ?_
            refine lv_topi (fun z_17 ez_17 => ?_)
            have hz_17 : z_17.toInt = wc_4.toInt + 1 := by rw [ez_17]; exact jb_iadd2 (rfl) ((by decide)) (by omega)
            refine j7_put hx hb hown hK hh_16 hB hAp hB3 (C := RX1) (T := TX1) (N := 17) rfl (by decide) hg_r0 (i := 15) (by decide) hly_3_15 rfl hlk_114 rfl (ty := .int) (v := .int z_17) (by decide +kernel) rfl rfl (⟨_, rfl⟩) rfl (L1 := [(r0, 3, 14, .int z_15), (r0, 3, 16, .int wc_4), (r0, 3, 3, .int length_3)]) [0, 1, 2] rfl rfl rfl dX1_seek_47 (fun H_18 locs_18 hh_18 => ?_)
            clear hh_16
            refine lv_aload_n hx hb dX1_seek_50 rfl (lv_at hl 0 rfl) ?_
            refine lv_dup hx hb dX1_seek_51 rfl ?_
            refine j7_read hx hb hown hK (C := RX1) (T := TX1) (N := 17) rfl hly_3_16 hlk_117 (hh_18.at 2 rfl) dX1_seek_52 ?_
            refine lv_iconst (v := 1) hx hb dX1_seek_55 (by decide) ?_
            refine lv_iadd hx hb dX1_seek_56 ?_
            refine lv_topi (fun z_19 ez_19 => ?_)
            have hz_19 : z_19.toInt = wc_4.toInt + 1 := by rw [ez_19]; exact jb_iadd2 (rfl) ((by decide)) (by omega)
            refine j7_put hx hb hown hK hh_18 hB hAp hB3 (C := RX1) (T := TX1) (N := 17) rfl (by decide) hg_r0 (i := 16) (by decide) hly_3_16 rfl hlk_117 rfl (ty := .int) (v := .int z_19) (by decide +kernel) rfl rfl (⟨_, rfl, by omega, by omega⟩) rfl (L1 := [(r0, 3, 15, .int z_17), (r0, 3, 14, .int z_15), (r0, 3, 3, .int length_3)]) [0, 1, 3] rfl rfl rfl dX1_seek_57 (fun H_20 locs_20 hh_20 => ?_)
            clear hh_18
            refine lv_goto (tgt := 0) hx hb dX1_seek_60 (by decide) ?_
            exact L0 z_19 _ _ (hh_20.sub (L1 := [(r0, 3, 16, .int z_19), (r0, 3, 3, .int length_3)]) [0, 3] rfl (M1 := []) [] rfl (I1 := []) [] rfl) (by first | omega | (refine ⟨?_, ?_⟩ <;> (first | omega | rfl | assumption | decide | exact Or.inl rfl | exact Or.inr rfl | (simp only; omega)))) (by omega) _ (lv_sub hl [0, 1] rfl)
  obtain ⟨v_21, hv_21, hh_22⟩ := hh_2.pin (C := RX1) (T := TX1) (N := 17) hB3 rfl (by decide) hg_r0 (i := 16) (by decide) rfl
  obtain ⟨cursor_23, rfl, hlocursor_23, hhicursor_23⟩ := hv_21
  exact L0 (((length_3.toInt - (cursor_23 : Int32).toInt).toNat : Int) : Int).toNat.succ cursor_23 _ _ hh_22 (by first | omega | (refine ⟨?_, ?_⟩ <;> (first | omega | rfl | assumption | decide | exact Or.inl rfl | exact Or.inr rfl | (simp only; omega)))) (by omega) _ (lv_sub hl [0, 1] rfl)
set_option maxHeartbeats 4000000 in
set_option maxRecDepth 20000 in
theorem uX1_endedBy (l : Launch) (dC : Nat → ClassId) (dI : Nat → Nat → Nat) (ca : Nat → ClassId) (base : Nat) (B : jF) (hB : jBok B) (hAp : jAp (dC, dI)) (hB3 : ∀ n G a H, B 3 n G a H ↔ jOb (dC, dI) 3 17 (F3 n G) a H) (hB172 : ∀ n G a H, B 172 n G a H ↔ jAr (dC, dI) (ca 1) (fun j z => 0 ≤ z.toInt ∧ z.toInt ≤ 1500) n a H) (G0 : jT) (H0 : Heap) (r0 : Nat) (a1 : Int32) : Met l yX1_endedBy (jw yX1_endedBy cX1_endedBy 3 (some .int)) ({ frames := 0, cells := 0, slots := 0, locals := 0 }) (va_Pc [.ref r0, .int a1] (fun U => U.heap = H0 ∧ jX B base G0 [] H0 ∧ jG dC dI ca base U ∧ G0 r0 = some (3, 0) ∧ jP (dC, dI) G0 H0 [] ∧ True)) (va_Qi (S := Unit) (fun r u => (0 ≤ r.toInt ∧ r.toInt ≤ 40)) (fun u t => jRt (dC, dI) B base G0 EX1_endedBy H0 [] t.heap) (jA base)) 0 0 (jA base) := by
  refine Met.ofW (cc := cX1_endedBy) (maxL := 3) (ret := (some .int)) (by decide) rfl ?_
  intro p e s m args below meth c s₁ Bd hml hv
  obtain ⟨rfl, hH0, hX, hG, hg_r0, hP0, hp0⟩ := hv
  have hK := hG.1
  have hx := Bd.exec
  have hb := Bd.bytes
  have hr := Bd.returns
  have hts := atoms_spec (ws := (jw yX1_endedBy cX1_endedBy 3 (some .int))) Bd.pre
  have htw : ∀ w ∈ jWl, w.before _ s = true := fun w h => hts w (List.mem_cons_of_mem _ h)
  have hown : s.vm.findClass RX1 = some m.cls := findClass_of_methodNamed Bd.named
  have hlocks := Bd.notSynchronized
  obtain ⟨Q, hQ⟩ : ∃ Q, Q = MQ below (va_Qi (S := Unit) (fun r u => (0 ≤ r.toInt ∧ r.toInt ≤ 40)) (fun u t => jRt (dC, dI) B base G0 EX1_endedBy H0 [] t.heap) (jA base)) ([.ref r0, .int a1] : List Value).toArray s 0 0 (jA base) := ⟨_, rfl⟩
  rw [← hQ]
  have hl := lv_entry ([.ref r0, .int a1]) (n := 3) (Nat.le_of_ble_eq_true rfl)
  rw [lg_entry_eq]
  generalize (lg_sl ([.ref r0, .int a1]) ++ List.replicate (3 - (lg_sl ([.ref r0, .int a1])).length) Slot.unset).toArray = ls at hl ⊢
  have hl : lv_has ls 3 [(0, .ref r0), (1, .int a1)] := hl
  generalize hR : (headSpec (jw yX1_endedBy cX1_endedBy 3 (some .int)) ({ frames := 0, cells := 0, slots := 0, locals := 0 })).room = R
  subst hH0
  have hh : jSt (dC, dI) B base G0 G0 EX1_endedBy s.heap 0 0 [] [] [] s.heap [] := jSt.start hX hP0 jMc.nil jIs.nil
  clear hX hP0
  have hk0 : (0 : Int32).toInt = 0 := by decide
  have hk1 : (1 : Int32).toInt = 1 := by decide
  have hly_3_4 := htw (u_lay RX1 TX1 4) (jWc_wsX10 _ (u_in_lay (by decide)))
  have hly_3_6 := htw (u_lay RX1 TX1 6) (jWc_wsX10 _ (u_in_lay (by decide)))
  have hlk_69 := (htw (.fieldLink RX1 69 "ProofServer$Document" "sentences" "I") (jWr_29 _ (List.mem_of_getElem? (i := 14) rfl)))
  have hlk_21 := (htw (.fieldLink RX1 21 "ProofServer$Document" "ends" "[I") (jWr_10 _ (List.mem_of_getElem? (i := 8) rfl)))
  have hrg_a1 := jb_rng a1
  refine lv_iconst (v := 0) hx hb dX1_endedBy_0 (by decide) ?_
  refine lv_istore_n (lv' := [(2, .int 0), (0, .ref r0), (1, .int a1)]) hx hb dX1_endedBy_1 rfl hl (by decide) rfl (fun ls hl => ?_)
  obtain ⟨v_1, hv_1, hh_2⟩ := hh.pin (C := RX1) (T := TX1) (N := 17) hB3 rfl (by decide) hg_r0 (i := 4) (by decide) rfl
  obtain ⟨sentences_3, rfl, hlosentences_3, hhisentences_3⟩ := hv_1
  have L2 : ∀ (N : Nat) (v2_4 : Int32) (H_4 : Heap) (locs_4 : List Loc), jSt (dC, dI) B base G0 G0 EX1_endedBy s.heap 0 0 [(r0, 3, 4, .int sentences_3)] [] [] H_4 locs_4 → (0 ≤ v2_4.toInt ∧ v2_4.toInt ≤ sentences_3.toInt) → (sentences_3.toInt - v2_4.toInt : Int) < N → ∀ ls : Array Slot, lv_has ls 3 [(0, .ref r0), (1, .int a1), (2, .int v2_4)] → W p l e R s m ([.ref r0, .int a1] : List Value).toArray below meth c H_4 locs_4 0 0 Q (F0 m 2 ls []) := by
    intro N
    induction N with
    | zero => intro v2_4 H_4 locs_4 hh_4  hi_4 hm; exact absurd hm (by omega)
    | succ N L2 =>
      intro v2_4 H_4 locs_4 hh_4  hi_4 hm_4 ls hl
      obtain ⟨hi_4_0, hi_4_1⟩ := hi_4
      refine lv_iload_n hx hb dX1_endedBy_2 rfl (lv_at hl 2 rfl) ?_
      refine lv_aload_n hx hb dX1_endedBy_3 rfl (lv_at hl 0 rfl) ?_
      refine j7_read hx hb hown hK (C := RX1) (T := TX1) (N := 17) rfl hly_3_4 hlk_69 (hh_4.at 0 rfl) dX1_endedBy_4 ?_
      refine lv_icmp_ge (tgt := 26) hx hb dX1_endedBy_7 (by decide) (fun c_5 => ?_) (fun c_5 => ?_)
      · skip
        have c_5' : v2_4.toInt ≥ sentences_3.toInt := jb_ge (rfl) (rfl) c_5
        refine lv_iload_n hx hb dX1_endedBy_26 rfl (lv_at hl 2 rfl) ?_
        rw [hQ]
        exact W.iret (v := v2_4) hx hb hr (fun t ht hW => ⟨⟨v2_4, (), rfl, by first | omega | (refine ⟨?_, ?_⟩ <;> (first | omega | rfl | assumption | decide | exact Or.inl rfl | exact Or.inr rfl | (simp only; omega))), hh_4.rt (M1 := []) [] rfl ht⟩, by rw [ht]; try exact hh_4.1.1, fun q h9 hq => by rw [ht]; try exact hh_4.1.2.1 q h9 hq⟩) hh_4.1.2.2 dX1_endedBy_27
      · skip
        have c_5' : v2_4.toInt < sentences_3.toInt := jb_ge_n (rfl) (rfl) c_5
        refine lv_aload_n hx hb dX1_endedBy_10 rfl (lv_at hl 0 rfl) ?_
        obtain ⟨v_6, hv_6, hh_7⟩ := hh_4.pin (C := RX1) (T := TX1) (N := 17) hB3 rfl (by decide) hg_r0 (i := 6) (by decide) rfl
        clear hh_4
        obtain ⟨ends_8, rfl, hg_ends_8⟩ := hv_6
        refine j7_read hx hb hown hK (C := RX1) (T := TX1) (N := 17) rfl hly_3_6 hlk_21 (hh_7.at 0 rfl) dX1_endedBy_11 ?_
        refine lv_iload_n hx hb dX1_endedBy_14 rfl (lv_at hl 2 rfl) ?_
        refine j7_iald hx hb hK hh_7 hB172 1 rfl (by decide) hg_ends_8 (x := v2_4.toInt) (rfl) (by omega) dX1_endedBy_15 (fun z_9 (hz_9 : 0 ≤ z_9.toInt ∧ z_9.toInt ≤ 1500) => ?_)
        refine lv_iload_n hx hb dX1_endedBy_16 rfl (lv_at hl 1 rfl) ?_
        refine lv_icmp_gt (tgt := 26) hx hb dX1_endedBy_17 (by decide) (fun c_10 => ?_) (fun c_10 => ?_)
        · skip
          have c_10' : z_9.toInt > a1.toInt := jb_gt (rfl) (rfl) c_10
          refine lv_iload_n hx hb dX1_endedBy_26 rfl (lv_at hl 2 rfl) ?_
          rw [hQ]
          exact W.iret (v := v2_4) hx hb hr (fun t ht hW => ⟨⟨v2_4, (), rfl, by first | omega | (refine ⟨?_, ?_⟩ <;> (first | omega | rfl | assumption | decide | exact Or.inl rfl | exact Or.inr rfl | (simp only; omega))), hh_7.rt (M1 := []) [] rfl ht⟩, by rw [ht]; try exact hh_7.1.1, fun q h9 hq => by rw [ht]; try exact hh_7.1.2.1 q h9 hq⟩) hh_7.1.2.2 dX1_endedBy_27
        · skip
          have c_10' : z_9.toInt ≤ a1.toInt := jb_gt_n (rfl) (rfl) c_10
          obtain ⟨z_11, ez_11⟩ : ∃ y : Int32, y = v2_4 + 1 := ⟨_, rfl⟩
          refine lv_iinc (v := z_11) (lv' := [(2, .int z_11), (0, .ref r0), (1, .int a1)]) hx hb dX1_endedBy_20 hl (k := 2) rfl (by rw [ez_11]; rfl) (by decide) rfl (fun ls hl => ?_)
          have hz_11 : z_11.toInt = v2_4.toInt + 1 := by rw [ez_11]; exact jb_iadd2 (rfl) (by decide) (by omega)
          refine lv_goto (tgt := 2) hx hb dX1_endedBy_23 (by decide) ?_
          exact L2 z_11 _ _ (hh_7.sub (L1 := [(r0, 3, 4, .int sentences_3)]) [1] rfl (M1 := []) [] rfl (I1 := []) [] rfl) (by first | omega | (refine ⟨?_, ?_⟩ <;> (first | omega | rfl | assumption | decide | exact Or.inl rfl | exact Or.inr rfl | (simp only; omega)))) (by omega) _ (lv_sub hl [1, 2, 0] rfl)
  exact L2 (sentences_3.toInt - (0 : Int32).toInt : Int).toNat.succ 0 _ _ hh_2 (by first | omega | (refine ⟨?_, ?_⟩ <;> (first | omega | rfl | assumption | decide | exact Or.inl rfl | exact Or.inr rfl | (simp only; omega)))) (by omega) _ (lv_sub hl [1, 2, 0] rfl)
set_option maxHeartbeats 4000000 in
set_option maxRecDepth 20000 in
theorem uX1_earlyFault (l : Launch) (dC : Nat → ClassId) (dI : Nat → Nat → Nat) (ca : Nat → ClassId) (base : Nat) (B : jF) (hB : jBok B) (hAp : jAp (dC, dI)) (hB3 : ∀ n G a H, B 3 n G a H ↔ jOb (dC, dI) 3 17 (F3 n G) a H) (hB101 : ∀ n G a H, B 101 n G a H ↔ jAr (dC, dI) (ca 1) (fun j z => True) n a H) (G0 : jT) (H0 : Heap) (r0 : Nat) : Met l yX1_earlyFault (jw yX1_earlyFault cX1_earlyFault 1 (some .int)) ({ frames := 0, cells := 0, slots := 0, locals := 0 }) (va_Pc [.ref r0] (fun U => U.heap = H0 ∧ jX B base G0 [] H0 ∧ jG dC dI ca base U ∧ G0 r0 = some (3, 0) ∧ jP (dC, dI) G0 H0 [] ∧ True)) (va_Qi (S := Unit) (fun r u => (True)) (fun u t => jRt (dC, dI) B base G0 EX1_earlyFault H0 [] t.heap) (jA base)) 0 0 (jA base) := by
  refine Met.ofW (cc := cX1_earlyFault) (maxL := 1) (ret := (some .int)) (by decide) rfl ?_
  intro p e s m args below meth c s₁ Bd hml hv
  obtain ⟨rfl, hH0, hX, hG, hg_r0, hP0, hp0⟩ := hv
  have hK := hG.1
  have hx := Bd.exec
  have hb := Bd.bytes
  have hr := Bd.returns
  have hts := atoms_spec (ws := (jw yX1_earlyFault cX1_earlyFault 1 (some .int))) Bd.pre
  have htw : ∀ w ∈ jWl, w.before _ s = true := fun w h => hts w (List.mem_cons_of_mem _ h)
  have hown : s.vm.findClass RX1 = some m.cls := findClass_of_methodNamed Bd.named
  have hlocks := Bd.notSynchronized
  obtain ⟨Q, hQ⟩ : ∃ Q, Q = MQ below (va_Qi (S := Unit) (fun r u => (True)) (fun u t => jRt (dC, dI) B base G0 EX1_earlyFault H0 [] t.heap) (jA base)) ([.ref r0] : List Value).toArray s 0 0 (jA base) := ⟨_, rfl⟩
  rw [← hQ]
  have hl := lv_entry ([.ref r0]) (n := 1) (Nat.le_of_ble_eq_true rfl)
  rw [lg_entry_eq]
  generalize (lg_sl ([.ref r0]) ++ List.replicate (1 - (lg_sl ([.ref r0])).length) Slot.unset).toArray = ls at hl ⊢
  have hl : lv_has ls 1 [(0, .ref r0)] := hl
  generalize hR : (headSpec (jw yX1_earlyFault cX1_earlyFault 1 (some .int)) ({ frames := 0, cells := 0, slots := 0, locals := 0 })).room = R
  subst hH0
  have hh : jSt (dC, dI) B base G0 G0 EX1_earlyFault s.heap 0 0 [] [] [] s.heap [] := jSt.start hX hP0 jMc.nil jIs.nil
  clear hX hP0
  have hk0 : (0 : Int32).toInt = 0 := by decide
  have hk1 : (1 : Int32).toInt = 1 := by decide
  have hly_3_4 := htw (u_lay RX1 TX1 4) (jWc_wsX10 _ (u_in_lay (by decide)))
  have hly_3_8 := htw (u_lay RX1 TX1 8) (jWc_wsX10 _ (u_in_lay (by decide)))
  have hly_3_10 := htw (u_lay RX1 TX1 10) (jWc_wsX10 _ (u_in_lay (by decide)))
  have hlk_72 := (htw (.fieldLink RX1 72 "ProofServer$Document" "checked" "I") (jWr_42 _ (List.mem_of_getElem? (i := 20) rfl)))
  have hlk_69 := (htw (.fieldLink RX1 69 "ProofServer$Document" "sentences" "I") (jWr_29 _ (List.mem_of_getElem? (i := 14) rfl)))
  have hlk_27 := (htw (.fieldLink RX1 27 "ProofServer$Document" "early" "[I") (jWr_10 _ (List.mem_of_getElem? (i := 10) rfl)))
  refine lv_aload_n hx hb dX1_earlyFault_0 rfl (lv_at hl 0 rfl) ?_
  obtain ⟨v_1, hv_1, hh_2⟩ := hh.pin (C := RX1) (T := TX1) (N := 17) hB3 rfl (by decide) hg_r0 (i := 10) (by decide) rfl
  clear hh
  obtain ⟨checked_3, rfl, hlochecked_3, hhichecked_3⟩ := hv_1
  refine j7_read hx hb hown hK (C := RX1) (T := TX1) (N := 17) rfl hly_3_10 hlk_72 (hh_2.at 0 rfl) dX1_earlyFault_1 ?_
  refine lv_aload_n hx hb dX1_earlyFault_4 rfl (lv_at hl 0 rfl) ?_
  obtain ⟨v_4, hv_4, hh_5⟩ := hh_2.pin (C := RX1) (T := TX1) (N := 17) hB3 rfl (by decide) hg_r0 (i := 4) (by decide) rfl
  clear hh_2
  obtain ⟨sentences_6, rfl, hlosentences_6, hhisentences_6⟩ := hv_4
  refine j7_read hx hb hown hK (C := RX1) (T := TX1) (N := 17) rfl hly_3_4 hlk_69 (hh_5.at 0 rfl) dX1_earlyFault_5 ?_
  refine lv_icmp_ge (tgt := 23) hx hb dX1_earlyFault_8 (by decide) (fun c_7 => ?_) (fun c_7 => ?_)
  · skip
    have c_7' : checked_3.toInt ≥ sentences_6.toInt := jb_ge (rfl) (rfl) c_7
    refine lv_iconst (v := 0) hx hb dX1_earlyFault_23 (by decide) ?_
    rw [hQ]
    exact W.iret (v := 0) hx hb hr (fun t ht hW => ⟨⟨0, (), rfl, trivial, hh_5.rt (M1 := []) [] rfl ht⟩, by rw [ht]; try exact hh_5.1.1, fun q h9 hq => by rw [ht]; try exact hh_5.1.2.1 q h9 hq⟩) hh_5.1.2.2 dX1_earlyFault_24
  · skip
    have c_7' : checked_3.toInt < sentences_6.toInt := jb_ge_n (rfl) (rfl) c_7
    refine lv_aload_n hx hb dX1_earlyFault_11 rfl (lv_at hl 0 rfl) ?_
    obtain ⟨v_8, hv_8, hh_9⟩ := hh_5.pin (C := RX1) (T := TX1) (N := 17) hB3 rfl (by decide) hg_r0 (i := 8) (by decide) rfl
    clear hh_5
    obtain ⟨early_10, rfl, hg_early_10⟩ := hv_8
    refine j7_read hx hb hown hK (C := RX1) (T := TX1) (N := 17) rfl hly_3_8 hlk_27 (hh_9.at 0 rfl) dX1_earlyFault_12 ?_
    refine lv_aload_n hx hb dX1_earlyFault_15 rfl (lv_at hl 0 rfl) ?_
    refine j7_read hx hb hown hK (C := RX1) (T := TX1) (N := 17) rfl hly_3_10 hlk_72 (hh_9.at 2 rfl) dX1_earlyFault_16 ?_
    refine j7_iald hx hb hK hh_9 hB101 1 rfl (by decide) hg_early_10 (x := checked_3.toInt) (rfl) (by omega) dX1_earlyFault_19 (fun z_11 (hz_11 : True) => ?_)
    refine lv_goto (tgt := 24) hx hb dX1_earlyFault_20 (by decide) ?_
    rw [hQ]
    exact W.iret (v := z_11) hx hb hr (fun t ht hW => ⟨⟨z_11, (), rfl, trivial, hh_9.rt (M1 := []) [] rfl ht⟩, by rw [ht]; try exact hh_9.1.1, fun q h9 hq => by rw [ht]; try exact hh_9.1.2.1 q h9 hq⟩) hh_9.1.2.2 dX1_earlyFault_24
set_option maxHeartbeats 4000000 in
set_option maxRecDepth 20000 in
theorem uX1_sentenceBegin (l : Launch) (dC : Nat → ClassId) (dI : Nat → Nat → Nat) (ca : Nat → ClassId) (base : Nat) (B : jF) (hB : jBok B) (hAp : jAp (dC, dI)) (hB3 : ∀ n G a H, B 3 n G a H ↔ jOb (dC, dI) 3 17 (F3 n G) a H) (hB101 : ∀ n G a H, B 101 n G a H ↔ jAr (dC, dI) (ca 1) (fun j z => True) n a H) (G0 : jT) (H0 : Heap) (r0 : Nat) (a1 : Int32) (n0 : Nat) : Met l yX1_sentenceBegin (jw yX1_sentenceBegin cX1_sentenceBegin 5 (some .int)) ({ frames := 2, cells := 0, slots := 0, locals := 46 }) (va_Pc [.ref r0, .int a1] (fun U => U.heap = H0 ∧ jX B base G0 [] H0 ∧ jG dC dI ca base U ∧ G0 r0 = some (3, n0) ∧ jP (dC, dI) G0 H0 [] ∧ 0 ≤ a1.toInt ∧ a1.toInt ≤ 1500)) (va_Qi (S := Unit) (fun r u => (0 ≤ r.toInt ∧ r.toInt ≤ 1500)) (fun u t => jRt (dC, dI) B base G0 EX1_sentenceBegin H0 [] t.heap) (jA base)) 0 0 (jA base) := by
  refine Met.ofW (cc := cX1_sentenceBegin) (maxL := 5) (ret := (some .int)) (by decide) rfl ?_
  intro p e s m args below meth c s₁ Bd hml hv
  obtain ⟨rfl, hH0, hX, hG, hg_r0, hP0, hp0, hp1⟩ := hv
  have hK := hG.1
  have hx := Bd.exec
  have hb := Bd.bytes
  have hr := Bd.returns
  have hts := atoms_spec (ws := (jw yX1_sentenceBegin cX1_sentenceBegin 5 (some .int))) Bd.pre
  have htw : ∀ w ∈ jWl, w.before _ s = true := fun w h => hts w (List.mem_cons_of_mem _ h)
  have hown : s.vm.findClass RX1 = some m.cls := findClass_of_methodNamed Bd.named
  have hlocks := Bd.notSynchronized
  obtain ⟨Q, hQ⟩ : ∃ Q, Q = MQ below (va_Qi (S := Unit) (fun r u => (0 ≤ r.toInt ∧ r.toInt ≤ 1500)) (fun u t => jRt (dC, dI) B base G0 EX1_sentenceBegin H0 [] t.heap) (jA base)) ([.ref r0, .int a1] : List Value).toArray s 0 0 (jA base) := ⟨_, rfl⟩
  rw [← hQ]
  have hl := lv_entry ([.ref r0, .int a1]) (n := 5) (Nat.le_of_ble_eq_true rfl)
  rw [lg_entry_eq]
  generalize (lg_sl ([.ref r0, .int a1]) ++ List.replicate (5 - (lg_sl ([.ref r0, .int a1])).length) Slot.unset).toArray = ls at hl ⊢
  have hl : lv_has ls 5 [(0, .ref r0), (1, .int a1)] := hl
  generalize hR : (headSpec (jw yX1_sentenceBegin cX1_sentenceBegin 5 (some .int)) ({ frames := 2, cells := 0, slots := 0, locals := 46 })).room = R
  subst hH0
  have hh : jSt (dC, dI) B base G0 G0 EX1_sentenceBegin s.heap 0 0 [] [] [] s.heap [] := jSt.start hX hP0 jMc.nil jIs.nil
  clear hX hP0
  have hk0 : (0 : Int32).toInt = 0 := by decide
  have hk1 : (1 : Int32).toInt = 1 := by decide
  have hly_3_2 := htw (u_lay RX1 TX1 2) (jWc_wsX10 _ (u_in_lay (by decide)))
  have hly_3_3 := htw (u_lay RX1 TX1 3) (jWc_wsX10 _ (u_in_lay (by decide)))
  have hlk_42 := (htw (.fieldLink RX1 42 "ProofServer$Document" "length" "I") (jWr_29 _ (List.mem_of_getElem? (i := 5) rfl)))
  have hlk_15 := (htw (.fieldLink RX1 15 "ProofServer$Document" "text" "[I") (jWr_10 _ (List.mem_of_getElem? (i := 6) rfl)))
  have hrg_a1 := jb_rng a1
  refine lv_iload_n hx hb dX1_sentenceBegin_0 rfl (lv_at hl 1 rfl) ?_
  refine lv_istore_n (lv' := [(2, .int a1), (0, .ref r0), (1, .int a1)]) hx hb dX1_sentenceBegin_1 rfl hl (by decide) rfl (fun ls hl => ?_)
  refine lv_iconst (v := 0) hx hb dX1_sentenceBegin_2 (by decide) ?_
  refine lv_istore_n (lv' := [(3, .int 0), (2, .int a1), (0, .ref r0), (1, .int a1)]) hx hb dX1_sentenceBegin_3 rfl hl (by decide) rfl (fun ls hl => ?_)
  obtain ⟨v_1, hv_1, hh_2⟩ := hh.pin (C := RX1) (T := TX1) (N := 17) hB3 rfl (by decide) hg_r0 (i := 3) (by decide) rfl
  obtain ⟨length_3, rfl, hlolength_3, hhilength_3⟩ := hv_1
  have L4 : ∀ (N : Nat) (v2_4 : Int32) (v3_4 : Int32) (H_4 : Heap) (locs_4 : List Loc), jSt (dC, dI) B base G0 G0 EX1_sentenceBegin s.heap 0 0 [(r0, 3, 3, .int length_3)] [] [] H_4 locs_4 → (0 ≤ v2_4.toInt ∧ v2_4.toInt ≤ 1500 ∧ 0 ≤ v3_4.toInt ∧ v3_4.toInt ≤ 1502) → (1502 - v3_4.toInt : Int) < N → ∀ ls : Array Slot, lv_has ls 5 [(0, .ref r0), (1, .int a1), (2, .int v2_4), (3, .int v3_4)] → W p l e R s m ([.ref r0, .int a1] : List Value).toArray below meth c H_4 locs_4 0 0 Q (F0 m 4 ls []) := by
    intro N
    induction N with
    | zero => intro v2_4 v3_4 H_4 locs_4 hh_4  hi_4 hm; exact absurd hm (by omega)
    | succ N L4 =>
      intro v2_4 v3_4 H_4 locs_4 hh_4  hi_4 hm_4 ls hl
      obtain ⟨hi_4_0, hi_4_1, hi_4_2, hi_4_3⟩ := hi_4
      refine lv_iload_n hx hb dX1_sentenceBegin_4 rfl (lv_at hl 3 rfl) ?_
      refine lv_aload_n hx hb dX1_sentenceBegin_5 rfl (lv_at hl 0 rfl) ?_
      refine j7_read hx hb hown hK (C := RX1) (T := TX1) (N := 17) rfl hly_3_3 hlk_42 (hh_4.at 0 rfl) dX1_sentenceBegin_6 ?_
      refine lv_icmp_gt (tgt := 68) hx hb dX1_sentenceBegin_9 (by decide) (fun c_5 => ?_) (fun c_5 => ?_)
      · skip
        have c_5' : v3_4.toInt > length_3.toInt := jb_gt (rfl) (rfl) c_5
        refine lv_iload_n hx hb dX1_sentenceBegin_68 rfl (lv_at hl 2 rfl) ?_
        rw [hQ]
        exact W.iret (v := v2_4) hx hb hr (fun t ht hW => ⟨⟨v2_4, (), rfl, by first | omega | (refine ⟨?_, ?_⟩ <;> (first | omega | rfl | assumption | decide | exact Or.inl rfl | exact Or.inr rfl | (simp only; omega))), hh_4.rt (M1 := []) [] rfl ht⟩, by rw [ht]; try exact hh_4.1.1, fun q h9 hq => by rw [ht]; try exact hh_4.1.2.1 q h9 hq⟩) hh_4.1.2.2 dX1_sentenceBegin_69
      · skip
        have c_5' : v3_4.toInt ≤ length_3.toInt := jb_gt_n (rfl) (rfl) c_5
        refine lv_iload_n hx hb dX1_sentenceBegin_12 rfl (lv_at hl 2 rfl) ?_
        refine lv_aload_n hx hb dX1_sentenceBegin_13 rfl (lv_at hl 0 rfl) ?_
        refine j7_read hx hb hown hK (C := RX1) (T := TX1) (N := 17) rfl hly_3_3 hlk_42 (hh_4.at 0 rfl) dX1_sentenceBegin_14 ?_
        refine lv_icmp_ge (tgt := 68) hx hb dX1_sentenceBegin_17 (by decide) (fun c_6 => ?_) (fun c_6 => ?_)
        · skip
          have c_6' : v2_4.toInt ≥ length_3.toInt := jb_ge (rfl) (rfl) c_6
          refine lv_iload_n hx hb dX1_sentenceBegin_68 rfl (lv_at hl 2 rfl) ?_
          rw [hQ]
          exact W.iret (v := v2_4) hx hb hr (fun t ht hW => ⟨⟨v2_4, (), rfl, by first | omega | (refine ⟨?_, ?_⟩ <;> (first | omega | rfl | assumption | decide | exact Or.inl rfl | exact Or.inr rfl | (simp only; omega))), hh_4.rt (M1 := []) [] rfl ht⟩, by rw [ht]; try exact hh_4.1.1, fun q h9 hq => by rw [ht]; try exact hh_4.1.2.1 q h9 hq⟩) hh_4.1.2.2 dX1_sentenceBegin_69
        · skip
          have c_6' : v2_4.toInt < length_3.toInt := jb_ge_n (rfl) (rfl) c_6
          refine lv_aload_n hx hb dX1_sentenceBegin_20 rfl (lv_at hl 0 rfl) ?_
          obtain ⟨v_7, hv_7, hh_8⟩ := hh_4.pin (C := RX1) (T := TX1) (N := 17) hB3 rfl (by decide) hg_r0 (i := 2) (by decide) rfl
          clear hh_4
          obtain ⟨text_9, rfl, hg_text_9⟩ := hv_7
          refine j7_read hx hb hown hK (C := RX1) (T := TX1) (N := 17) rfl hly_3_2 hlk_15 (hh_8.at 0 rfl) dX1_sentenceBegin_21 ?_
          refine lv_iload_n hx hb dX1_sentenceBegin_24 rfl (lv_at hl 2 rfl) ?_
          refine j7_iald hx hb hK hh_8 hB101 1 rfl (by decide) hg_text_9 (x := v2_4.toInt) (rfl) (by omega) dX1_sentenceBegin_25 (fun z_10 (hz_10 : True) => ?_)
          refine vp_callSi (va_Run.run (va_runSN (As := [.int z_10]) (rest := []) ⟨hx, hb, hml, hown, hts⟩ (wX11_isBlank l dC dI ca base H_4 z_10) ⟨va_cnB 1 hts (jgW (jWr_20 _ (List.mem_of_getElem? (i := 0) rfl))) rfl rfl rfl (hG.2.2.1 RX1 87 yX11_isBlank "ProofServer" (List.mem_of_getElem? (i := 1119) (by decide +kernel))) (htw (.initialized RX11) (jWr_1 _ (List.mem_of_getElem? (i := 2) rfl))) (by decide +kernel) ⟨by rw [← hR]; exact Nat.le_of_ble_eq_true rfl, by rw [← hR]; exact Nat.le_of_ble_eq_true rfl⟩, htw (.static yX11_isBlank) (jWr_19 _ (List.mem_of_getElem? (i := 23) rfl)), trivial⟩ ⟨fun a U g mk q => by obtain ⟨q0, q1, qK, q9⟩ := q; exact ⟨q0, q1, jG.calling g mk a qK, q9⟩, fun U hU hW => ⟨rfl, hU, hG.step hW hU hh_8.1, by first | trivial | omega | (constructor <;> omega)⟩⟩ rfl rfl hl.1 rfl (lv_room (Nat.le_of_ble_eq_true rfl)) dX1_sentenceBegin_26 ⟨Nat.zero_le _, Nat.zero_le _⟩)) (fun r_11 hr_11 => ?_)
          have hr_11' : r_11.toInt = 0 ∨ r_11.toInt = 1 := jb_01 hr_11
          refine lv_if_eq (tgt := 38) hx hb dX1_sentenceBegin_29 (by decide) (fun c_12 => ?_) (fun c_12 => ?_)
          · skip
            have c_12' : r_11.toInt = 0 := jb_eq (rfl) ((by decide)) c_12
            refine lv_aload_n hx hb dX1_sentenceBegin_38 rfl (lv_at hl 0 rfl) ?_
            refine j7_read hx hb hown hK (C := RX1) (T := TX1) (N := 17) rfl hly_3_2 hlk_15 (hh_8.at 0 rfl) dX1_sentenceBegin_39 ?_
            refine lv_iload_n hx hb dX1_sentenceBegin_42 rfl (lv_at hl 2 rfl) ?_
            refine lv_aload_n hx hb dX1_sentenceBegin_43 rfl (lv_at hl 0 rfl) ?_
            refine j7_read hx hb hown hK (C := RX1) (T := TX1) (N := 17) rfl hly_3_3 hlk_42 (hh_8.at 1 rfl) dX1_sentenceBegin_44 ?_
            refine va_calli (A0 := jA base) (H0 := s.heap) (va_runSN (As := [.ref text_9, .int v2_4, .int length_3]) (rest := []) ⟨hx, hb, hml, hown, hts⟩ (uX11_commentEnd l dC dI ca base B hB hAp hB101 G0 H_4 text_9 v2_4 length_3 1500) ⟨va_cnB 3 hts (jgW (jWr_36 _ (List.mem_of_getElem? (i := 11) rfl))) rfl rfl rfl (hG.2.2.1 RX1 91 yX11_commentEnd "ProofServer" (List.mem_of_getElem? (i := 1120) (by decide +kernel))) (htw (.initialized RX11) (jWr_1 _ (List.mem_of_getElem? (i := 2) rfl))) (by decide +kernel) ⟨by rw [← hR]; exact Nat.le_of_ble_eq_true rfl, by rw [← hR]; exact Nat.le_of_ble_eq_true rfl⟩, htw (.static yX11_commentEnd) (jWr_36 _ (List.mem_of_getElem? (i := 10) rfl)), trivial⟩ ⟨fun a U g mk q => by obtain ⟨q0, q1, q2, qK, q10, q11, q12⟩ := q; exact ⟨q0, q1, q2, jG.calling g mk a qK, q10, q11, q12⟩, fun U hU hW => ⟨rfl, hU, hh_8.2.1, hG.step hW hU hh_8.1, hg_text_9, jP.nil, by first | omega | (refine ⟨?_, ?_⟩ <;> (first | omega | rfl | assumption | decide | exact Or.inl rfl | exact Or.inr rfl | (simp only; omega)))⟩⟩ rfl rfl hl.1 rfl (lv_room (Nat.le_of_ble_eq_true rfl)) dX1_sentenceBegin_47 ⟨Nat.zero_le _, Nat.zero_le _⟩) hh_8.1 (fun q _ h => h) (fun q h => h) (fun r_14 u_13 t_13 H_13 locs_13 ht_13 hvm_13 hr_14 hb_13 hz_13 hk_13 hS_13 => ?_)
            rw [ht_13] at hb_13
            obtain ⟨hb_131, hb_132, hb_133, hb_134, hb_135⟩ := hb_13
            have hh_13 : jSt (dC, dI) B base G0 G0 EX1_sentenceBegin s.heap 0 0 [(r0, 3, 2, .ref text_9), (r0, 3, 3, .int length_3)] [] [] H_13 locs_13 := ((hh_8.call hb_131 hb_132 hb_133 hb_134 hS_13 rfl (L1 := [(r0, 3, 2, .ref text_9), (r0, 3, 3, .int length_3)]) [0, 1] rfl rfl (M1 := []) [] rfl rfl (I1 := []) [] rfl rfl).more hb_135)
            clear hh_8 ht_13 hvm_13 hz_13 hk_13 hS_13 hb_131 hb_132 hb_133 hb_134 hb_135
            refine lv_istore (lv' := [(4, .int r_14), (0, .ref r0), (1, .int a1), (2, .int v2_4), (3, .int v3_4)]) hx hb dX1_sentenceBegin_50 hl (by decide) rfl (fun ls hl => ?_)
            refine lv_iload hx hb dX1_sentenceBegin_52 (lv_at hl 0 rfl) ?_
            refine lv_if_ge (tgt := 59) hx hb dX1_sentenceBegin_54 (by decide) (fun c_15 => ?_) (fun c_15 => ?_)
            · skip
              have c_15' : r_14.toInt ≥ 0 := jb_ge (rfl) ((by decide)) c_15
              first | (have hr_14q := hr_14.resolve_left (by omega); clear hr_14) | (have hr_14q := hr_14.resolve_right (by omega); clear hr_14) | skip
              refine lv_iload hx hb dX1_sentenceBegin_59 (lv_at hl 0 rfl) ?_
              refine lv_istore_n (lv' := [(2, .int r_14), (4, .int r_14), (0, .ref r0), (1, .int a1), (3, .int v3_4)]) hx hb dX1_sentenceBegin_61 rfl hl (by decide) rfl (fun ls hl => ?_)
              obtain ⟨z_16, ez_16⟩ : ∃ y : Int32, y = v3_4 + 1 := ⟨_, rfl⟩
              refine lv_iinc (v := z_16) (lv' := [(3, .int z_16), (2, .int r_14), (4, .int r_14), (0, .ref r0), (1, .int a1)]) hx hb dX1_sentenceBegin_62 hl (k := 4) rfl (by rw [ez_16]; rfl) (by decide) rfl (fun ls hl => ?_)
              have hz_16 : z_16.toInt = v3_4.toInt + 1 := by rw [ez_16]; exact jb_iadd2 (rfl) (by decide) (by omega)
              refine lv_goto (tgt := 4) hx hb dX1_sentenceBegin_65 (by decide) ?_
              exact L4 r_14 z_16 _ _ (hh_13.sub (L1 := [(r0, 3, 3, .int length_3)]) [1] rfl (M1 := []) [] rfl (I1 := []) [] rfl) (by first | omega | (refine ⟨?_, ?_, ?_, ?_⟩ <;> (first | omega | rfl | assumption | decide | exact Or.inl rfl | exact Or.inr rfl | (simp only; omega)))) (by omega) _ (lv_sub hl [3, 4, 1, 0] rfl)
            · skip
              have c_15' : r_14.toInt < 0 := jb_ge_n (rfl) ((by decide)) c_15
              first | (have hr_14q := hr_14.resolve_left (by omega); clear hr_14) | (have hr_14q := hr_14.resolve_right (by omega); clear hr_14) | skip
              refine lv_iload_n hx hb dX1_sentenceBegin_57 rfl (lv_at hl 3 rfl) ?_
              rw [hQ]
              exact W.iret (v := v2_4) hx hb hr (fun t ht hW => ⟨⟨v2_4, (), rfl, by first | omega | (refine ⟨?_, ?_⟩ <;> (first | omega | rfl | assumption | decide | exact Or.inl rfl | exact Or.inr rfl | (simp only; omega))), hh_13.rt (M1 := []) [] rfl ht⟩, by rw [ht]; try exact hh_13.1.1, fun q h9 hq => by rw [ht]; try exact hh_13.1.2.1 q h9 hq⟩) hh_13.1.2.2 dX1_sentenceBegin_58
          · skip
            have c_12' : r_11.toInt ≠ 0 := jb_eq_n (rfl) ((by decide)) c_12
            obtain ⟨z_17, ez_17⟩ : ∃ y : Int32, y = v2_4 + 1 := ⟨_, rfl⟩
            refine lv_iinc (v := z_17) (lv' := [(2, .int z_17), (0, .ref r0), (1, .int a1), (3, .int v3_4)]) hx hb dX1_sentenceBegin_32 hl (k := 2) rfl (by rw [ez_17]; rfl) (by decide) rfl (fun ls hl => ?_)
            have hz_17 : z_17.toInt = v2_4.toInt + 1 := by rw [ez_17]; exact jb_iadd2 (rfl) (by decide) (by omega)
            refine lv_goto (tgt := 62) hx hb dX1_sentenceBegin_35 (by decide) ?_
            obtain ⟨z_18, ez_18⟩ : ∃ y : Int32, y = v3_4 + 1 := ⟨_, rfl⟩
            refine lv_iinc (v := z_18) (lv' := [(3, .int z_18), (2, .int z_17), (0, .ref r0), (1, .int a1)]) hx hb dX1_sentenceBegin_62 hl (k := 3) rfl (by rw [ez_18]; rfl) (by decide) rfl (fun ls hl => ?_)
            have hz_18 : z_18.toInt = v3_4.toInt + 1 := by rw [ez_18]; exact jb_iadd2 (rfl) (by decide) (by omega)
            refine lv_goto (tgt := 4) hx hb dX1_sentenceBegin_65 (by decide) ?_
            exact L4 z_17 z_18 _ _ (hh_8.sub (L1 := [(r0, 3, 3, .int length_3)]) [1] rfl (M1 := []) [] rfl (I1 := []) [] rfl) (by first | omega | (refine ⟨?_, ?_, ?_, ?_⟩ <;> (first | omega | rfl | assumption | decide | exact Or.inl rfl | exact Or.inr rfl | (simp only; omega)))) (by omega) _ (lv_sub hl [2, 3, 1, 0] rfl)
  exact L4 (1502 - (0 : Int32).toInt : Int).toNat.succ a1 0 _ _ hh_2 (by first | omega | (refine ⟨?_, ?_, ?_, ?_⟩ <;> (first | omega | rfl | assumption | decide | exact Or.inl rfl | exact Or.inr rfl | (simp only; omega)))) (by omega) _ (lv_sub hl [2, 3, 1, 0] rfl)
set_option maxHeartbeats 4000000 in
set_option maxRecDepth 20000 in
theorem uX1_sentenceEnd (l : Launch) (dC : Nat → ClassId) (dI : Nat → Nat → Nat) (ca : Nat → ClassId) (base : Nat) (B : jF) (hB : jBok B) (hAp : jAp (dC, dI)) (hB3 : ∀ n G a H, B 3 n G a H ↔ jOb (dC, dI) 3 17 (F3 n G) a H) (hB101 : ∀ n G a H, B 101 n G a H ↔ jAr (dC, dI) (ca 1) (fun j z => True) n a H) (G0 : jT) (H0 : Heap) (r0 : Nat) (a1 : Int32) (n0 : Nat) : Met l yX1_sentenceEnd (jw yX1_sentenceEnd cX1_sentenceEnd 5 (some .int)) ({ frames := 2, cells := 0, slots := 0, locals := 46 }) (va_Pc [.ref r0, .int a1] (fun U => U.heap = H0 ∧ jX B base G0 [] H0 ∧ jG dC dI ca base U ∧ G0 r0 = some (3, n0) ∧ jP (dC, dI) G0 H0 [] ∧ 0 ≤ a1.toInt ∧ a1.toInt ≤ 1500)) (va_Qi (S := Unit) (fun r u => (-1 ≤ r.toInt ∧ r.toInt ≤ 1500)) (fun u t => jRt (dC, dI) B base G0 EX1_sentenceEnd H0 [] t.heap) (jA base)) 0 0 (jA base) := by
  refine Met.ofW (cc := cX1_sentenceEnd) (maxL := 5) (ret := (some .int)) (by decide) rfl ?_
  intro p e s m args below meth c s₁ Bd hml hv
  obtain ⟨rfl, hH0, hX, hG, hg_r0, hP0, hp0, hp1⟩ := hv
  have hK := hG.1
  have hx := Bd.exec
  have hb := Bd.bytes
  have hr := Bd.returns
  have hts := atoms_spec (ws := (jw yX1_sentenceEnd cX1_sentenceEnd 5 (some .int))) Bd.pre
  have htw : ∀ w ∈ jWl, w.before _ s = true := fun w h => hts w (List.mem_cons_of_mem _ h)
  have hown : s.vm.findClass RX1 = some m.cls := findClass_of_methodNamed Bd.named
  have hlocks := Bd.notSynchronized
  obtain ⟨Q, hQ⟩ : ∃ Q, Q = MQ below (va_Qi (S := Unit) (fun r u => (-1 ≤ r.toInt ∧ r.toInt ≤ 1500)) (fun u t => jRt (dC, dI) B base G0 EX1_sentenceEnd H0 [] t.heap) (jA base)) ([.ref r0, .int a1] : List Value).toArray s 0 0 (jA base) := ⟨_, rfl⟩
  rw [← hQ]
  have hl := lv_entry ([.ref r0, .int a1]) (n := 5) (Nat.le_of_ble_eq_true rfl)
  rw [lg_entry_eq]
  generalize (lg_sl ([.ref r0, .int a1]) ++ List.replicate (5 - (lg_sl ([.ref r0, .int a1])).length) Slot.unset).toArray = ls at hl ⊢
  have hl : lv_has ls 5 [(0, .ref r0), (1, .int a1)] := hl
  generalize hR : (headSpec (jw yX1_sentenceEnd cX1_sentenceEnd 5 (some .int)) ({ frames := 2, cells := 0, slots := 0, locals := 46 })).room = R
  subst hH0
  have hh : jSt (dC, dI) B base G0 G0 EX1_sentenceEnd s.heap 0 0 [] [] [] s.heap [] := jSt.start hX hP0 jMc.nil jIs.nil
  clear hX hP0
  have hkm1 : ((-1) : Int32).toInt = (-1) := by decide
  have hk0 : (0 : Int32).toInt = 0 := by decide
  have hk1 : (1 : Int32).toInt = 1 := by decide
  have hk46 : (46 : Int32).toInt = 46 := by decide
  have hly_3_2 := htw (u_lay RX1 TX1 2) (jWc_wsX10 _ (u_in_lay (by decide)))
  have hly_3_3 := htw (u_lay RX1 TX1 3) (jWc_wsX10 _ (u_in_lay (by decide)))
  have hlk_42 := (htw (.fieldLink RX1 42 "ProofServer$Document" "length" "I") (jWr_29 _ (List.mem_of_getElem? (i := 5) rfl)))
  have hlk_15 := (htw (.fieldLink RX1 15 "ProofServer$Document" "text" "[I") (jWr_10 _ (List.mem_of_getElem? (i := 6) rfl)))
  have hrg_a1 := jb_rng a1
  refine lv_iload_n hx hb dX1_sentenceEnd_0 rfl (lv_at hl 1 rfl) ?_
  refine lv_istore_n (lv' := [(2, .int a1), (0, .ref r0), (1, .int a1)]) hx hb dX1_sentenceEnd_1 rfl hl (by decide) rfl (fun ls hl => ?_)
  refine lv_iconst (v := 0) hx hb dX1_sentenceEnd_2 (by decide) ?_
  refine lv_istore_n (lv' := [(3, .int 0), (2, .int a1), (0, .ref r0), (1, .int a1)]) hx hb dX1_sentenceEnd_3 rfl hl (by decide) rfl (fun ls hl => ?_)
  obtain ⟨v_1, hv_1, hh_2⟩ := hh.pin (C := RX1) (T := TX1) (N := 17) hB3 rfl (by decide) hg_r0 (i := 3) (by decide) rfl
  obtain ⟨length_3, rfl, hlolength_3, hhilength_3⟩ := hv_1
  have L4 : ∀ (N : Nat) (v2_4 : Int32) (v3_4 : Int32) (H_4 : Heap) (locs_4 : List Loc), jSt (dC, dI) B base G0 G0 EX1_sentenceEnd s.heap 0 0 [(r0, 3, 3, .int length_3)] [] [] H_4 locs_4 → (0 ≤ v2_4.toInt ∧ v2_4.toInt ≤ 1500 ∧ 0 ≤ v3_4.toInt ∧ v3_4.toInt ≤ 1502) → (1502 - v3_4.toInt : Int) < N → ∀ ls : Array Slot, lv_has ls 5 [(0, .ref r0), (1, .int a1), (2, .int v2_4), (3, .int v3_4)] → W p l e R s m ([.ref r0, .int a1] : List Value).toArray below meth c H_4 locs_4 0 0 Q (F0 m 4 ls []) := by
    intro N
    induction N with
    | zero => intro v2_4 v3_4 H_4 locs_4 hh_4  hi_4 hm; exact absurd hm (by omega)
    | succ N L4 =>
      intro v2_4 v3_4 H_4 locs_4 hh_4  hi_4 hm_4 ls hl
      obtain ⟨hi_4_0, hi_4_1, hi_4_2, hi_4_3⟩ := hi_4
      refine lv_iload_n hx hb dX1_sentenceEnd_4 rfl (lv_at hl 3 rfl) ?_
      refine lv_aload_n hx hb dX1_sentenceEnd_5 rfl (lv_at hl 0 rfl) ?_
      refine j7_read hx hb hown hK (C := RX1) (T := TX1) (N := 17) rfl hly_3_3 hlk_42 (hh_4.at 0 rfl) dX1_sentenceEnd_6 ?_
      refine lv_icmp_gt (tgt := 123) hx hb dX1_sentenceEnd_9 (by decide) (fun c_5 => ?_) (fun c_5 => ?_)
      · skip
        have c_5' : v3_4.toInt > length_3.toInt := jb_gt (rfl) (rfl) c_5
        refine lv_iconst (v := (-1)) hx hb dX1_sentenceEnd_123 (by decide) ?_
        rw [hQ]
        exact W.iret (v := (-1)) hx hb hr (fun t ht hW => ⟨⟨(-1), (), rfl, by first | omega | (refine ⟨?_, ?_⟩ <;> (first | omega | rfl | assumption | decide | exact Or.inl rfl | exact Or.inr rfl | (simp only; omega))), hh_4.rt (M1 := []) [] rfl ht⟩, by rw [ht]; try exact hh_4.1.1, fun q h9 hq => by rw [ht]; try exact hh_4.1.2.1 q h9 hq⟩) hh_4.1.2.2 dX1_sentenceEnd_124
      · skip
        have c_5' : v3_4.toInt ≤ length_3.toInt := jb_gt_n (rfl) (rfl) c_5
        refine lv_iload_n hx hb dX1_sentenceEnd_12 rfl (lv_at hl 2 rfl) ?_
        refine lv_aload_n hx hb dX1_sentenceEnd_13 rfl (lv_at hl 0 rfl) ?_
        refine j7_read hx hb hown hK (C := RX1) (T := TX1) (N := 17) rfl hly_3_3 hlk_42 (hh_4.at 0 rfl) dX1_sentenceEnd_14 ?_
        refine lv_icmp_ge (tgt := 123) hx hb dX1_sentenceEnd_17 (by decide) (fun c_6 => ?_) (fun c_6 => ?_)
        · skip
          have c_6' : v2_4.toInt ≥ length_3.toInt := jb_ge (rfl) (rfl) c_6
          refine lv_iconst (v := (-1)) hx hb dX1_sentenceEnd_123 (by decide) ?_
          rw [hQ]
          exact W.iret (v := (-1)) hx hb hr (fun t ht hW => ⟨⟨(-1), (), rfl, by first | omega | (refine ⟨?_, ?_⟩ <;> (first | omega | rfl | assumption | decide | exact Or.inl rfl | exact Or.inr rfl | (simp only; omega))), hh_4.rt (M1 := []) [] rfl ht⟩, by rw [ht]; try exact hh_4.1.1, fun q h9 hq => by rw [ht]; try exact hh_4.1.2.1 q h9 hq⟩) hh_4.1.2.2 dX1_sentenceEnd_124
        · skip
          have c_6' : v2_4.toInt < length_3.toInt := jb_ge_n (rfl) (rfl) c_6
          refine lv_aload_n hx hb dX1_sentenceEnd_20 rfl (lv_at hl 0 rfl) ?_
          obtain ⟨v_7, hv_7, hh_8⟩ := hh_4.pin (C := RX1) (T := TX1) (N := 17) hB3 rfl (by decide) hg_r0 (i := 2) (by decide) rfl
          clear hh_4
          obtain ⟨text_9, rfl, hg_text_9⟩ := hv_7
          refine j7_read hx hb hown hK (C := RX1) (T := TX1) (N := 17) rfl hly_3_2 hlk_15 (hh_8.at 0 rfl) dX1_sentenceEnd_21 ?_
          refine lv_iload_n hx hb dX1_sentenceEnd_24 rfl (lv_at hl 2 rfl) ?_
          refine lv_aload_n hx hb dX1_sentenceEnd_25 rfl (lv_at hl 0 rfl) ?_
          refine j7_read hx hb hown hK (C := RX1) (T := TX1) (N := 17) rfl hly_3_3 hlk_42 (hh_8.at 1 rfl) dX1_sentenceEnd_26 ?_
          refine va_calli (A0 := jA base) (H0 := s.heap) (va_runSN (As := [.ref text_9, .int v2_4, .int length_3]) (rest := []) ⟨hx, hb, hml, hown, hts⟩ (uX11_opensComment l dC dI ca base B hB hAp hB101 G0 H_4 text_9 v2_4 length_3 1500) ⟨va_cnB 3 hts (jgW (jWr_36 _ (List.mem_of_getElem? (i := 14) rfl))) rfl rfl rfl (hG.2.2.1 RX1 94 yX11_opensComment "ProofServer" (List.mem_of_getElem? (i := 1130) (by decide +kernel))) (htw (.initialized RX11) (jWr_1 _ (List.mem_of_getElem? (i := 2) rfl))) (by decide +kernel) ⟨by rw [← hR]; exact Nat.le_of_ble_eq_true rfl, by rw [← hR]; exact Nat.le_of_ble_eq_true rfl⟩, htw (.static yX11_opensComment) (jWr_36 _ (List.mem_of_getElem? (i := 13) rfl)), trivial⟩ ⟨fun a U g mk q => by obtain ⟨q0, q1, q2, qK, q10, q11, q12⟩ := q; exact ⟨q0, q1, q2, jG.calling g mk a qK, q10, q11, q12⟩, fun U hU hW => ⟨rfl, hU, hh_8.2.1, hG.step hW hU hh_8.1, hg_text_9, jP.nil, by first | omega | (refine ⟨?_, ?_⟩ <;> (first | omega | rfl | assumption | decide | exact Or.inl rfl | exact Or.inr rfl | (simp only; omega)))⟩⟩ rfl rfl hl.1 rfl (lv_room (Nat.le_of_ble_eq_true rfl)) dX1_sentenceEnd_29 ⟨Nat.zero_le _, Nat.zero_le _⟩) hh_8.1 (fun q _ h => h) (fun q h => h) (fun r_11 u_10 t_10 H_10 locs_10 ht_10 hvm_10 hr_11 hb_10 hz_10 hk_10 hS_10 => ?_)
          rw [ht_10] at hb_10
          obtain ⟨hb_101, hb_102, hb_103, hb_104, hb_105⟩ := hb_10
          have hh_10 : jSt (dC, dI) B base G0 G0 EX1_sentenceEnd s.heap 0 0 [(r0, 3, 2, .ref text_9), (r0, 3, 3, .int length_3)] [] [] H_10 locs_10 := ((hh_8.call hb_101 hb_102 hb_103 hb_104 hS_10 rfl (L1 := [(r0, 3, 2, .ref text_9), (r0, 3, 3, .int length_3)]) [0, 1] rfl rfl (M1 := []) [] rfl rfl (I1 := []) [] rfl rfl).more hb_105)
          clear hh_8 ht_10 hvm_10 hz_10 hk_10 hS_10 hb_101 hb_102 hb_103 hb_104 hb_105
          obtain ⟨hr_11b, hr_11p⟩ := hr_11
          have hr_11' := jb_01 hr_11b
          refine lv_if_eq (tgt := 54) hx hb dX1_sentenceEnd_32 (by decide) (fun c_12 => ?_) (fun c_12 => ?_)
          · skip
            have c_12' : r_11.toInt = 0 := jb_eq (rfl) ((by decide)) c_12
            first | (have hr_11pq := hr_11p.resolve_left (by omega); clear hr_11p) | (have hr_11pq := hr_11p.resolve_right (by omega); clear hr_11p) | try clear hr_11p
            refine lv_aload_n hx hb dX1_sentenceEnd_54 rfl (lv_at hl 0 rfl) ?_
            refine j7_read hx hb hown hK (C := RX1) (T := TX1) (N := 17) rfl hly_3_2 hlk_15 (hh_10.at 0 rfl) dX1_sentenceEnd_55 ?_
            refine lv_iload_n hx hb dX1_sentenceEnd_58 rfl (lv_at hl 2 rfl) ?_
            refine j7_iald hx hb hK hh_10 hB101 1 rfl (by decide) hg_text_9 (x := v2_4.toInt) (rfl) (by omega) dX1_sentenceEnd_59 (fun z_13 (hz_13 : True) => ?_)
            refine lv_bipush (v := 46) hx hb dX1_sentenceEnd_60 (by decide) ?_
            have C70 : ∀ (w0_14 : Int32) (H_14 : Heap) (locs_14 : List Loc), jSt (dC, dI) B base G0 G0 EX1_sentenceEnd s.heap 0 0 [(r0, 3, 2, .ref text_9), (r0, 3, 3, .int length_3)] [] [] H_14 locs_14 → (w0_14 = 0 ∨ w0_14 = 1) → (True) → ∀ ls : Array Slot, lv_has ls 5 [(0, .ref r0), (1, .int a1), (2, .int v2_4), (3, .int v3_4)] → W p l e R s m ([.ref r0, .int a1] : List Value).toArray below meth c H_14 locs_14 0 0 Q (F0 m 70 ls [.int w0_14]) := by
              intro w0_14 H_14 locs_14 hh_14 hb_w0_14 hi_14 ls hl
              have hb_w0_14' := jb_01 hb_w0_14
              refine lv_istore (lv' := [(4, .int w0_14), (0, .ref r0), (1, .int a1), (2, .int v2_4), (3, .int v3_4)]) hx hb dX1_sentenceEnd_70 hl (by decide) rfl (fun ls hl => ?_)
              obtain ⟨z_15, ez_15⟩ : ∃ y : Int32, y = v2_4 + 1 := ⟨_, rfl⟩
              refine lv_iinc (v := z_15) (lv' := [(2, .int z_15), (4, .int w0_14), (0, .ref r0), (1, .int a1), (3, .int v3_4)]) hx hb dX1_sentenceEnd_72 hl (k := 3) rfl (by rw [ez_15]; rfl) (by decide) rfl (fun ls hl => ?_)
              have hz_15 : z_15.toInt = v2_4.toInt + 1 := by rw [ez_15]; exact jb_iadd2 (rfl) (by decide) (by omega)
              refine lv_iload hx hb dX1_sentenceEnd_75 (lv_at hl 1 rfl) ?_
              refine lv_if_eq (tgt := 117) hx hb dX1_sentenceEnd_77 (by decide) (fun c_16 => ?_) (fun c_16 => ?_)
              · skip
                have c_16' : w0_14.toInt = 0 := jb_eq (rfl) ((by decide)) c_16
                obtain ⟨z_17, ez_17⟩ : ∃ y : Int32, y = v3_4 + 1 := ⟨_, rfl⟩
                refine lv_iinc (v := z_17) (lv' := [(3, .int z_17), (2, .int z_15), (4, .int w0_14), (0, .ref r0), (1, .int a1)]) hx hb dX1_sentenceEnd_117 hl (k := 4) rfl (by rw [ez_17]; rfl) (by decide) rfl (fun ls hl => ?_)
                have hz_17 : z_17.toInt = v3_4.toInt + 1 := by rw [ez_17]; exact jb_iadd2 (rfl) (by decide) (by omega)
                refine lv_goto (tgt := 4) hx hb dX1_sentenceEnd_120 (by decide) ?_
                exact L4 z_15 z_17 _ _ (hh_14.sub (L1 := [(r0, 3, 3, .int length_3)]) [1] rfl (M1 := []) [] rfl (I1 := []) [] rfl) (by first | omega | (refine ⟨?_, ?_, ?_, ?_⟩ <;> (first | omega | rfl | assumption | decide | exact Or.inl rfl | exact Or.inr rfl | (simp only; omega)))) (by omega) _ (lv_sub hl [3, 4, 1, 0] rfl)
              · skip
                have c_16' : w0_14.toInt ≠ 0 := jb_eq_n (rfl) ((by decide)) c_16
                refine lv_iload_n hx hb dX1_sentenceEnd_80 rfl (lv_at hl 0 rfl) ?_
                refine lv_aload_n hx hb dX1_sentenceEnd_81 rfl (lv_at hl 2 rfl) ?_
                refine j7_read hx hb hown hK (C := RX1) (T := TX1) (N := 17) rfl hly_3_3 hlk_42 (hh_14.at 1 rfl) dX1_sentenceEnd_82 ?_
                refine lv_icmp_eq (tgt := 115) hx hb dX1_sentenceEnd_85 (by decide) (fun c_18 => ?_) (fun c_18 => ?_)
                · skip
                  have c_18' : z_15.toInt = length_3.toInt := jb_eq (rfl) (rfl) c_18
                  refine lv_iload_n hx hb dX1_sentenceEnd_115 rfl (lv_at hl 0 rfl) ?_
                  rw [hQ]
                  exact W.iret (v := z_15) hx hb hr (fun t ht hW => ⟨⟨z_15, (), rfl, by first | omega | (refine ⟨?_, ?_⟩ <;> (first | omega | rfl | assumption | decide | exact Or.inl rfl | exact Or.inr rfl | (simp only; omega))), hh_14.rt (M1 := []) [] rfl ht⟩, by rw [ht]; try exact hh_14.1.1, fun q h9 hq => by rw [ht]; try exact hh_14.1.2.1 q h9 hq⟩) hh_14.1.2.2 dX1_sentenceEnd_116
                · skip
                  have c_18' : z_15.toInt ≠ length_3.toInt := jb_eq_n (rfl) (rfl) c_18
                  refine lv_aload_n hx hb dX1_sentenceEnd_88 rfl (lv_at hl 2 rfl) ?_
                  refine j7_read hx hb hown hK (C := RX1) (T := TX1) (N := 17) rfl hly_3_2 hlk_15 (hh_14.at 0 rfl) dX1_sentenceEnd_89 ?_
                  refine lv_iload_n hx hb dX1_sentenceEnd_92 rfl (lv_at hl 0 rfl) ?_
                  refine j7_iald hx hb hK hh_14 hB101 1 rfl (by decide) hg_text_9 (x := z_15.toInt) (rfl) (by omega) dX1_sentenceEnd_93 (fun z_19 (hz_19 : True) => ?_)
                  refine vp_callSi (va_Run.run (va_runSN (As := [.int z_19]) (rest := []) ⟨hx, hb, hml, hown, hts⟩ (wX11_isBlank l dC dI ca base H_14 z_19) ⟨va_cnB 1 hts (jgW (jWr_20 _ (List.mem_of_getElem? (i := 0) rfl))) rfl rfl rfl (hG.2.2.1 RX1 87 yX11_isBlank "ProofServer" (List.mem_of_getElem? (i := 1119) (by decide +kernel))) (htw (.initialized RX11) (jWr_1 _ (List.mem_of_getElem? (i := 2) rfl))) (by decide +kernel) ⟨by rw [← hR]; exact Nat.le_of_ble_eq_true rfl, by rw [← hR]; exact Nat.le_of_ble_eq_true rfl⟩, htw (.static yX11_isBlank) (jWr_19 _ (List.mem_of_getElem? (i := 23) rfl)), trivial⟩ ⟨fun a U g mk q => by obtain ⟨q0, q1, qK, q9⟩ := q; exact ⟨q0, q1, jG.calling g mk a qK, q9⟩, fun U hU hW => ⟨rfl, hU, hG.step hW hU hh_14.1, by first | trivial | omega | (constructor <;> omega)⟩⟩ rfl rfl hl.1 rfl (lv_room (Nat.le_of_ble_eq_true rfl)) dX1_sentenceEnd_94 ⟨Nat.zero_le _, Nat.zero_le _⟩)) (fun r_20 hr_20 => ?_)
                  have hr_20' : r_20.toInt = 0 ∨ r_20.toInt = 1 := jb_01 hr_20
                  refine lv_if_ne (tgt := 115) hx hb dX1_sentenceEnd_97 (by decide) (fun c_21 => ?_) (fun c_21 => ?_)
                  · skip
                    have c_21' : r_20.toInt ≠ 0 := jb_ne (rfl) ((by decide)) c_21
                    refine lv_iload_n hx hb dX1_sentenceEnd_115 rfl (lv_at hl 0 rfl) ?_
                    rw [hQ]
                    exact W.iret (v := z_15) hx hb hr (fun t ht hW => ⟨⟨z_15, (), rfl, by first | omega | (refine ⟨?_, ?_⟩ <;> (first | omega | rfl | assumption | decide | exact Or.inl rfl | exact Or.inr rfl | (simp only; omega))), hh_14.rt (M1 := []) [] rfl ht⟩, by rw [ht]; try exact hh_14.1.1, fun q h9 hq => by rw [ht]; try exact hh_14.1.2.1 q h9 hq⟩) hh_14.1.2.2 dX1_sentenceEnd_116
                  · skip
                    have c_21' : r_20.toInt = 0 := jb_ne_n (rfl) ((by decide)) c_21
                    refine lv_aload_n hx hb dX1_sentenceEnd_100 rfl (lv_at hl 2 rfl) ?_
                    refine j7_read hx hb hown hK (C := RX1) (T := TX1) (N := 17) rfl hly_3_2 hlk_15 (hh_14.at 0 rfl) dX1_sentenceEnd_101 ?_
                    refine lv_iload_n hx hb dX1_sentenceEnd_104 rfl (lv_at hl 0 rfl) ?_
                    refine lv_aload_n hx hb dX1_sentenceEnd_105 rfl (lv_at hl 2 rfl) ?_
                    refine j7_read hx hb hown hK (C := RX1) (T := TX1) (N := 17) rfl hly_3_3 hlk_42 (hh_14.at 1 rfl) dX1_sentenceEnd_106 ?_
                    refine va_calli (A0 := jA base) (H0 := s.heap) (va_runSN (As := [.ref text_9, .int z_15, .int length_3]) (rest := []) ⟨hx, hb, hml, hown, hts⟩ (uX11_opensComment l dC dI ca base B hB hAp hB101 G0 H_14 text_9 z_15 length_3 1500) ⟨va_cnB 3 hts (jgW (jWr_36 _ (List.mem_of_getElem? (i := 14) rfl))) rfl rfl rfl (hG.2.2.1 RX1 94 yX11_opensComment "ProofServer" (List.mem_of_getElem? (i := 1130) (by decide +kernel))) (htw (.initialized RX11) (jWr_1 _ (List.mem_of_getElem? (i := 2) rfl))) (by decide +kernel) ⟨by rw [← hR]; exact Nat.le_of_ble_eq_true rfl, by rw [← hR]; exact Nat.le_of_ble_eq_true rfl⟩, htw (.static yX11_opensComment) (jWr_36 _ (List.mem_of_getElem? (i := 13) rfl)), trivial⟩ ⟨fun a U g mk q => by obtain ⟨q0, q1, q2, qK, q10, q11, q12⟩ := q; exact ⟨q0, q1, q2, jG.calling g mk a qK, q10, q11, q12⟩, fun U hU hW => ⟨rfl, hU, hh_14.2.1, hG.step hW hU hh_14.1, hg_text_9, jP.nil, by first | omega | (refine ⟨?_, ?_⟩ <;> (first | omega | rfl | assumption | decide | exact Or.inl rfl | exact Or.inr rfl | (simp only; omega)))⟩⟩ rfl rfl hl.1 rfl (lv_room (Nat.le_of_ble_eq_true rfl)) dX1_sentenceEnd_109 ⟨Nat.zero_le _, Nat.zero_le _⟩) hh_14.1 (fun q _ h => h) (fun q h => h) (fun r_23 u_22 t_22 H_22 locs_22 ht_22 hvm_22 hr_23 hb_22 hz_22 hk_22 hS_22 => ?_)
                    rw [ht_22] at hb_22
                    obtain ⟨hb_221, hb_222, hb_223, hb_224, hb_225⟩ := hb_22
                    have hh_22 : jSt (dC, dI) B base G0 G0 EX1_sentenceEnd s.heap 0 0 [(r0, 3, 2, .ref text_9), (r0, 3, 3, .int length_3)] [] [] H_22 locs_22 := ((hh_14.call hb_221 hb_222 hb_223 hb_224 hS_22 rfl (L1 := [(r0, 3, 2, .ref text_9), (r0, 3, 3, .int length_3)]) [0, 1] rfl rfl (M1 := []) [] rfl rfl (I1 := []) [] rfl rfl).more hb_225)
                    clear hh_14 ht_22 hvm_22 hz_22 hk_22 hS_22 hb_221 hb_222 hb_223 hb_224 hb_225
                    obtain ⟨hr_23b, hr_23p⟩ := hr_23
                    have hr_23' := jb_01 hr_23b
                    refine lv_if_eq (tgt := 117) hx hb dX1_sentenceEnd_112 (by decide) (fun c_24 => ?_) (fun c_24 => ?_)
                    · skip
                      have c_24' : r_23.toInt = 0 := jb_eq (rfl) ((by decide)) c_24
                      first | (have hr_23pq := hr_23p.resolve_left (by omega); clear hr_23p) | (have hr_23pq := hr_23p.resolve_right (by omega); clear hr_23p) | try clear hr_23p
                      obtain ⟨z_25, ez_25⟩ : ∃ y : Int32, y = v3_4 + 1 := ⟨_, rfl⟩
                      refine lv_iinc (v := z_25) (lv' := [(3, .int z_25), (2, .int z_15), (4, .int w0_14), (0, .ref r0), (1, .int a1)]) hx hb dX1_sentenceEnd_117 hl (k := 4) rfl (by rw [ez_25]; rfl) (by decide) rfl (fun ls hl => ?_)
                      have hz_25 : z_25.toInt = v3_4.toInt + 1 := by rw [ez_25]; exact jb_iadd2 (rfl) (by decide) (by omega)
                      refine lv_goto (tgt := 4) hx hb dX1_sentenceEnd_120 (by decide) ?_
                      exact L4 z_15 z_25 _ _ (hh_22.sub (L1 := [(r0, 3, 3, .int length_3)]) [1] rfl (M1 := []) [] rfl (I1 := []) [] rfl) (by first | omega | (refine ⟨?_, ?_, ?_, ?_⟩ <;> (first | omega | rfl | assumption | decide | exact Or.inl rfl | exact Or.inr rfl | (simp only; omega)))) (by omega) _ (lv_sub hl [3, 4, 1, 0] rfl)
                    · skip
                      have c_24' : r_23.toInt ≠ 0 := jb_eq_n (rfl) ((by decide)) c_24
                      first | (have hr_23pq := hr_23p.resolve_left (by omega); clear hr_23p) | (have hr_23pq := hr_23p.resolve_right (by omega); clear hr_23p) | try clear hr_23p
                      refine lv_iload_n hx hb dX1_sentenceEnd_115 rfl (lv_at hl 0 rfl) ?_
                      rw [hQ]
                      exact W.iret (v := z_15) hx hb hr (fun t ht hW => ⟨⟨z_15, (), rfl, by first | omega | (refine ⟨?_, ?_⟩ <;> (first | omega | rfl | assumption | decide | exact Or.inl rfl | exact Or.inr rfl | (simp only; omega))), hh_22.rt (M1 := []) [] rfl ht⟩, by rw [ht]; try exact hh_22.1.1, fun q h9 hq => by rw [ht]; try exact hh_22.1.2.1 q h9 hq⟩) hh_22.1.2.2 dX1_sentenceEnd_116
            refine lv_icmp_ne (tgt := 69) hx hb dX1_sentenceEnd_62 (by decide) (fun c_26 => ?_) (fun c_26 => ?_)
            · skip
              have c_26' : z_13.toInt ≠ 46 := jb_ne (rfl) ((by decide)) c_26
              refine lv_iconst (v := 0) hx hb dX1_sentenceEnd_69 (by decide) ?_
              exact C70 0 _ _ hh_10 (Or.inl rfl) (trivial) _ (lv_sub hl [0, 1, 2, 3] rfl)
            · skip
              have c_26' : z_13.toInt = 46 := jb_ne_n (rfl) ((by decide)) c_26
              refine lv_iconst (v := 1) hx hb dX1_sentenceEnd_65 (by decide) ?_
              refine lv_goto (tgt := 70) hx hb dX1_sentenceEnd_66 (by decide) ?_
              exact C70 1 _ _ hh_10 (Or.inr rfl) (trivial) _ (lv_sub hl [0, 1, 2, 3] rfl)
          · skip
            have c_12' : r_11.toInt ≠ 0 := jb_eq_n (rfl) ((by decide)) c_12
            first | (have hr_11pq := hr_11p.resolve_left (by omega); clear hr_11p) | (have hr_11pq := hr_11p.resolve_right (by omega); clear hr_11p) | try clear hr_11p
            refine lv_aload_n hx hb dX1_sentenceEnd_35 rfl (lv_at hl 0 rfl) ?_
            refine j7_read hx hb hown hK (C := RX1) (T := TX1) (N := 17) rfl hly_3_2 hlk_15 (hh_10.at 0 rfl) dX1_sentenceEnd_36 ?_
            refine lv_iload_n hx hb dX1_sentenceEnd_39 rfl (lv_at hl 2 rfl) ?_
            refine lv_aload_n hx hb dX1_sentenceEnd_40 rfl (lv_at hl 0 rfl) ?_
            refine j7_read hx hb hown hK (C := RX1) (T := TX1) (N := 17) rfl hly_3_3 hlk_42 (hh_10.at 1 rfl) dX1_sentenceEnd_41 ?_
            refine va_calli (A0 := jA base) (H0 := s.heap) (va_runSN (As := [.ref text_9, .int v2_4, .int length_3]) (rest := []) ⟨hx, hb, hml, hown, hts⟩ (uX11_commentEnd l dC dI ca base B hB hAp hB101 G0 H_10 text_9 v2_4 length_3 1500) ⟨va_cnB 3 hts (jgW (jWr_36 _ (List.mem_of_getElem? (i := 11) rfl))) rfl rfl rfl (hG.2.2.1 RX1 91 yX11_commentEnd "ProofServer" (List.mem_of_getElem? (i := 1120) (by decide +kernel))) (htw (.initialized RX11) (jWr_1 _ (List.mem_of_getElem? (i := 2) rfl))) (by decide +kernel) ⟨by rw [← hR]; exact Nat.le_of_ble_eq_true rfl, by rw [← hR]; exact Nat.le_of_ble_eq_true rfl⟩, htw (.static yX11_commentEnd) (jWr_36 _ (List.mem_of_getElem? (i := 10) rfl)), trivial⟩ ⟨fun a U g mk q => by obtain ⟨q0, q1, q2, qK, q10, q11, q12⟩ := q; exact ⟨q0, q1, q2, jG.calling g mk a qK, q10, q11, q12⟩, fun U hU hW => ⟨rfl, hU, hh_10.2.1, hG.step hW hU hh_10.1, hg_text_9, jP.nil, by first | omega | (refine ⟨?_, ?_⟩ <;> (first | omega | rfl | assumption | decide | exact Or.inl rfl | exact Or.inr rfl | (simp only; omega)))⟩⟩ rfl rfl hl.1 rfl (lv_room (Nat.le_of_ble_eq_true rfl)) dX1_sentenceEnd_44 ⟨Nat.zero_le _, Nat.zero_le _⟩) hh_10.1 (fun q _ h => h) (fun q h => h) (fun r_28 u_27 t_27 H_27 locs_27 ht_27 hvm_27 hr_28 hb_27 hz_27 hk_27 hS_27 => ?_)
            rw [ht_27] at hb_27
            obtain ⟨hb_271, hb_272, hb_273, hb_274, hb_275⟩ := hb_27
            have hh_27 : jSt (dC, dI) B base G0 G0 EX1_sentenceEnd s.heap 0 0 [(r0, 3, 2, .ref text_9), (r0, 3, 3, .int length_3)] [] [] H_27 locs_27 := ((hh_10.call hb_271 hb_272 hb_273 hb_274 hS_27 rfl (L1 := [(r0, 3, 2, .ref text_9), (r0, 3, 3, .int length_3)]) [0, 1] rfl rfl (M1 := []) [] rfl rfl (I1 := []) [] rfl rfl).more hb_275)
            clear hh_10 ht_27 hvm_27 hz_27 hk_27 hS_27 hb_271 hb_272 hb_273 hb_274 hb_275
            refine lv_istore_n (lv' := [(2, .int r_28), (0, .ref r0), (1, .int a1), (3, .int v3_4)]) hx hb dX1_sentenceEnd_47 rfl hl (by decide) rfl (fun ls hl => ?_)
            refine lv_iload_n hx hb dX1_sentenceEnd_48 rfl (lv_at hl 0 rfl) ?_
            refine lv_if_ge (tgt := 117) hx hb dX1_sentenceEnd_49 (by decide) (fun c_29 => ?_) (fun c_29 => ?_)
            · skip
              have c_29' : r_28.toInt ≥ 0 := jb_ge (rfl) ((by decide)) c_29
              first | (have hr_28q := hr_28.resolve_left (by omega); clear hr_28) | (have hr_28q := hr_28.resolve_right (by omega); clear hr_28) | skip
              obtain ⟨z_30, ez_30⟩ : ∃ y : Int32, y = v3_4 + 1 := ⟨_, rfl⟩
              refine lv_iinc (v := z_30) (lv' := [(3, .int z_30), (2, .int r_28), (0, .ref r0), (1, .int a1)]) hx hb dX1_sentenceEnd_117 hl (k := 3) rfl (by rw [ez_30]; rfl) (by decide) rfl (fun ls hl => ?_)
              have hz_30 : z_30.toInt = v3_4.toInt + 1 := by rw [ez_30]; exact jb_iadd2 (rfl) (by decide) (by omega)
              refine lv_goto (tgt := 4) hx hb dX1_sentenceEnd_120 (by decide) ?_
              exact L4 r_28 z_30 _ _ (hh_27.sub (L1 := [(r0, 3, 3, .int length_3)]) [1] rfl (M1 := []) [] rfl (I1 := []) [] rfl) (by first | omega | (refine ⟨?_, ?_, ?_, ?_⟩ <;> (first | omega | rfl | assumption | decide | exact Or.inl rfl | exact Or.inr rfl | (simp only; omega)))) (by omega) _ (lv_sub hl [2, 3, 1, 0] rfl)
            · skip
              have c_29' : r_28.toInt < 0 := jb_ge_n (rfl) ((by decide)) c_29
              first | (have hr_28q := hr_28.resolve_left (by omega); clear hr_28) | (have hr_28q := hr_28.resolve_right (by omega); clear hr_28) | skip
              refine lv_iconst (v := (-1)) hx hb dX1_sentenceEnd_52 (by decide) ?_
              rw [hQ]
              exact W.iret (v := (-1)) hx hb hr (fun t ht hW => ⟨⟨(-1), (), rfl, by first | omega | (refine ⟨?_, ?_⟩ <;> (first | omega | rfl | assumption | decide | exact Or.inl rfl | exact Or.inr rfl | (simp only; omega))), hh_27.rt (M1 := []) [] rfl ht⟩, by rw [ht]; try exact hh_27.1.1, fun q h9 hq => by rw [ht]; try exact hh_27.1.2.1 q h9 hq⟩) hh_27.1.2.2 dX1_sentenceEnd_53
  exact L4 (1502 - (0 : Int32).toInt : Int).toNat.succ a1 0 _ _ hh_2 (by first | omega | (refine ⟨?_, ?_, ?_, ?_⟩ <;> (first | omega | rfl | assumption | decide | exact Or.inl rfl | exact Or.inr rfl | (simp only; omega)))) (by omega) _ (lv_sub hl [2, 3, 1, 0] rfl)
set_option maxHeartbeats 4000000 in
set_option maxRecDepth 20000 in
theorem uX1_placeOf (l : Launch) (dC : Nat → ClassId) (dI : Nat → Nat → Nat) (ca : Nat → ClassId) (base : Nat) (B : jF) (hB : jBok B) (hAp : jAp (dC, dI)) (hB3 : ∀ n G a H, B 3 n G a H ↔ jOb (dC, dI) 3 17 (F3 n G) a H) (hB101 : ∀ n G a H, B 101 n G a H ↔ jAr (dC, dI) (ca 1) (fun j z => True) n a H) (G0 : jT) (H0 : Heap) (r0 : Nat) (a1 : Int32) (a2 : Int32) (n0 : Nat) : Met l yX1_placeOf (jw yX1_placeOf cX1_placeOf 6 (some .int)) ({ frames := 1, cells := 0, slots := 0, locals := 22 }) (va_Pc [.ref r0, .int a1, .int a2] (fun U => U.heap = H0 ∧ jX B base G0 [] H0 ∧ jG dC dI ca base U ∧ G0 r0 = some (3, n0) ∧ jP (dC, dI) G0 H0 [] ∧ True)) (va_Qi (S := Unit) (fun r u => (-1 ≤ r.toInt ∧ r.toInt ≤ 1500)) (fun u t => jRt (dC, dI) B base G0 EX1_placeOf H0 [] t.heap) (jA base)) 0 0 (jA base) := by
  refine Met.ofW (cc := cX1_placeOf) (maxL := 6) (ret := (some .int)) (by decide) rfl ?_
  intro p e s m args below meth c s₁ Bd hml hv
  obtain ⟨rfl, hH0, hX, hG, hg_r0, hP0, hp0⟩ := hv
  have hK := hG.1
  have hx := Bd.exec
  have hb := Bd.bytes
  have hr := Bd.returns
  have hts := atoms_spec (ws := (jw yX1_placeOf cX1_placeOf 6 (some .int))) Bd.pre
  have htw : ∀ w ∈ jWl, w.before _ s = true := fun w h => hts w (List.mem_cons_of_mem _ h)
  have hown : s.vm.findClass RX1 = some m.cls := findClass_of_methodNamed Bd.named
  have hlocks := Bd.notSynchronized
  obtain ⟨Q, hQ⟩ : ∃ Q, Q = MQ below (va_Qi (S := Unit) (fun r u => (-1 ≤ r.toInt ∧ r.toInt ≤ 1500)) (fun u t => jRt (dC, dI) B base G0 EX1_placeOf H0 [] t.heap) (jA base)) ([.ref r0, .int a1, .int a2] : List Value).toArray s 0 0 (jA base) := ⟨_, rfl⟩
  rw [← hQ]
  have hl := lv_entry ([.ref r0, .int a1, .int a2]) (n := 6) (Nat.le_of_ble_eq_true rfl)
  rw [lg_entry_eq]
  generalize (lg_sl ([.ref r0, .int a1, .int a2]) ++ List.replicate (6 - (lg_sl ([.ref r0, .int a1, .int a2])).length) Slot.unset).toArray = ls at hl ⊢
  have hl : lv_has ls 6 [(0, .ref r0), (1, .int a1), (2, .int a2)] := hl
  generalize hR : (headSpec (jw yX1_placeOf cX1_placeOf 6 (some .int)) ({ frames := 1, cells := 0, slots := 0, locals := 22 })).room = R
  subst hH0
  have hh : jSt (dC, dI) B base G0 G0 EX1_placeOf s.heap 0 0 [] [] [] s.heap [] := jSt.start hX hP0 jMc.nil jIs.nil
  clear hX hP0
  have hkm1 : ((-1) : Int32).toInt = (-1) := by decide
  have hk0 : (0 : Int32).toInt = 0 := by decide
  have hk1 : (1 : Int32).toInt = 1 := by decide
  have hk10 : (10 : Int32).toInt = 10 := by decide
  have hk13 : (13 : Int32).toInt = 13 := by decide
  have hly_3_2 := htw (u_lay RX1 TX1 2) (jWc_wsX10 _ (u_in_lay (by decide)))
  have hly_3_3 := htw (u_lay RX1 TX1 3) (jWc_wsX10 _ (u_in_lay (by decide)))
  have hlk_42 := (htw (.fieldLink RX1 42 "ProofServer$Document" "length" "I") (jWr_29 _ (List.mem_of_getElem? (i := 5) rfl)))
  have hlk_15 := (htw (.fieldLink RX1 15 "ProofServer$Document" "text" "[I") (jWr_10 _ (List.mem_of_getElem? (i := 6) rfl)))
  have hrg_a1 := jb_rng a1
  have hrg_a2 := jb_rng a2
  refine lv_iload_n hx hb dX1_placeOf_0 rfl (lv_at hl 1 rfl) ?_
  refine lv_if_lt (tgt := 8) hx hb dX1_placeOf_1 (by decide) (fun c_1 => ?_) (fun c_1 => ?_)
  · skip
    have c_1' : a1.toInt < 0 := jb_lt (rfl) ((by decide)) c_1
    refine lv_iconst (v := (-1)) hx hb dX1_placeOf_8 (by decide) ?_
    rw [hQ]
    exact W.iret (v := (-1)) hx hb hr (fun t ht hW => ⟨⟨(-1), (), rfl, by first | omega | (refine ⟨?_, ?_⟩ <;> (first | omega | rfl | assumption | decide | exact Or.inl rfl | exact Or.inr rfl | (simp only; omega))), hh.rt (M1 := []) [] rfl ht⟩, by rw [ht]; try exact hh.1.1, fun q h9 hq => by rw [ht]; try exact hh.1.2.1 q h9 hq⟩) hh.1.2.2 dX1_placeOf_9
  · skip
    have c_1' : a1.toInt ≥ 0 := jb_lt_n (rfl) ((by decide)) c_1
    refine lv_iload_n hx hb dX1_placeOf_4 rfl (lv_at hl 2 rfl) ?_
    refine lv_if_ge (tgt := 10) hx hb dX1_placeOf_5 (by decide) (fun c_2 => ?_) (fun c_2 => ?_)
    · skip
      have c_2' : a2.toInt ≥ 0 := jb_ge (rfl) ((by decide)) c_2
      refine lv_iconst (v := 0) hx hb dX1_placeOf_10 (by decide) ?_
      refine lv_istore_n (lv' := [(3, .int 0), (0, .ref r0), (1, .int a1), (2, .int a2)]) hx hb dX1_placeOf_11 rfl hl (by decide) rfl (fun ls hl => ?_)
      refine lv_iconst (v := 0) hx hb dX1_placeOf_12 (by decide) ?_
      refine lv_istore (lv' := [(4, .int 0), (3, .int 0), (0, .ref r0), (1, .int a1), (2, .int a2)]) hx hb dX1_placeOf_13 hl (by decide) rfl (fun ls hl => ?_)
      obtain ⟨v_3, hv_3, hh_4⟩ := hh.pin (C := RX1) (T := TX1) (N := 17) hB3 rfl (by decide) hg_r0 (i := 3) (by decide) rfl
      obtain ⟨length_5, rfl, hlolength_5, hhilength_5⟩ := hv_3
      have L15 : ∀ (N : Nat) (v3_6 : Int32) (v4_6 : Int32) (H_6 : Heap) (locs_6 : List Loc), jSt (dC, dI) B base G0 G0 EX1_placeOf s.heap 0 0 [(r0, 3, 3, .int length_5)] [] [] H_6 locs_6 → (0 ≤ v3_6.toInt ∧ v3_6.toInt ≤ length_5.toInt ∧ 0 ≤ v4_6.toInt ∧ v4_6.toInt ≤ v3_6.toInt) → (length_5.toInt - v3_6.toInt : Int) < N → ∀ ls : Array Slot, lv_has ls 6 [(0, .ref r0), (1, .int a1), (2, .int a2), (3, .int v3_6), (4, .int v4_6)] → W p l e R s m ([.ref r0, .int a1, .int a2] : List Value).toArray below meth c H_6 locs_6 0 0 Q (F0 m 15 ls []) := by
        intro N
        induction N with
        | zero => intro v3_6 v4_6 H_6 locs_6 hh_6  hi_6 hm; exact absurd hm (by omega)
        | succ N L15 =>
          intro v3_6 v4_6 H_6 locs_6 hh_6  hi_6 hm_6 ls hl
          obtain ⟨hi_6_0, hi_6_1, hi_6_2, hi_6_3⟩ := hi_6
          refine lv_iload_n hx hb dX1_placeOf_15 rfl (lv_at hl 3 rfl) ?_
          refine lv_aload_n hx hb dX1_placeOf_16 rfl (lv_at hl 0 rfl) ?_
          refine j7_read hx hb hown hK (C := RX1) (T := TX1) (N := 17) rfl hly_3_3 hlk_42 (hh_6.at 0 rfl) dX1_placeOf_17 ?_
          have C46 : ∀ (v3_7 : Int32) (v4_7 : Int32) (H_7 : Heap) (locs_7 : List Loc), jSt (dC, dI) B base G0 G0 EX1_placeOf s.heap 0 0 [(r0, 3, 3, .int length_5)] [] [] H_7 locs_7 → (0 ≤ v3_7.toInt ∧ v3_7.toInt ≤ length_5.toInt ∧ 0 ≤ v4_7.toInt) → ∀ ls : Array Slot, lv_has ls 6 [(0, .ref r0), (1, .int a1), (2, .int a2), (3, .int v3_7), (4, .int v4_7)] → W p l e R s m ([.ref r0, .int a1, .int a2] : List Value).toArray below meth c H_7 locs_7 0 0 Q (F0 m 46 ls []) := by
            intro v3_7 v4_7 H_7 locs_7 hh_7  hi_7 ls hl
            obtain ⟨hi_7_0, hi_7_1, hi_7_2⟩ := hi_7
            refine lv_iload hx hb dX1_placeOf_46 (lv_at hl 4 rfl) ?_
            refine lv_iload_n hx hb dX1_placeOf_48 rfl (lv_at hl 1 rfl) ?_
            refine lv_icmp_ge (tgt := 54) hx hb dX1_placeOf_49 (by decide) (fun c_8 => ?_) (fun c_8 => ?_)
            · skip
              have c_8' : v4_7.toInt ≥ a1.toInt := jb_ge (rfl) (rfl) c_8
              refine lv_iload_n hx hb dX1_placeOf_54 rfl (lv_at hl 3 rfl) ?_
              refine lv_istore (lv' := [(5, .int v3_7), (0, .ref r0), (1, .int a1), (2, .int a2), (3, .int v3_7), (4, .int v4_7)]) hx hb dX1_placeOf_55 hl (by decide) rfl (fun ls hl => ?_)
              have L57 : ∀ (N : Nat) (v3_9 : Int32) (H_9 : Heap) (locs_9 : List Loc), jSt (dC, dI) B base G0 G0 EX1_placeOf s.heap 0 0 [(r0, 3, 3, .int length_5)] [] [] H_9 locs_9 → (v3_7.toInt ≤ v3_9.toInt ∧ v3_9.toInt ≤ length_5.toInt) → (length_5.toInt - v3_9.toInt : Int) < N → ∀ ls : Array Slot, lv_has ls 6 [(0, .ref r0), (1, .int a1), (2, .int a2), (3, .int v3_9), (4, .int v4_7), (5, .int v3_7)] → W p l e R s m ([.ref r0, .int a1, .int a2] : List Value).toArray below meth c H_9 locs_9 0 0 Q (F0 m 57 ls []) := by
                intro N
                induction N with
                | zero => intro v3_9 H_9 locs_9 hh_9  hi_9 hm; exact absurd hm (by omega)
                | succ N L57 =>
                  intro v3_9 H_9 locs_9 hh_9  hi_9 hm_9 ls hl
                  obtain ⟨hi_9_0, hi_9_1⟩ := hi_9
                  refine lv_iload_n hx hb dX1_placeOf_57 rfl (lv_at hl 3 rfl) ?_
                  refine lv_aload_n hx hb dX1_placeOf_58 rfl (lv_at hl 0 rfl) ?_
                  refine j7_read hx hb hown hK (C := RX1) (T := TX1) (N := 17) rfl hly_3_3 hlk_42 (hh_9.at 0 rfl) dX1_placeOf_59 ?_
                  refine lv_icmp_ge (tgt := 101) hx hb dX1_placeOf_62 (by decide) (fun c_10 => ?_) (fun c_10 => ?_)
                  · skip
                    have c_10' : v3_9.toInt ≥ length_5.toInt := jb_ge (rfl) (rfl) c_10
                    refine lv_iload_n hx hb dX1_placeOf_101 rfl (lv_at hl 3 rfl) ?_
                    rw [hQ]
                    exact W.iret (v := v3_9) hx hb hr (fun t ht hW => ⟨⟨v3_9, (), rfl, by first | omega | (refine ⟨?_, ?_⟩ <;> (first | omega | rfl | assumption | decide | exact Or.inl rfl | exact Or.inr rfl | (simp only; omega))), hh_9.rt (M1 := []) [] rfl ht⟩, by rw [ht]; try exact hh_9.1.1, fun q h9 hq => by rw [ht]; try exact hh_9.1.2.1 q h9 hq⟩) hh_9.1.2.2 dX1_placeOf_102
                  · skip
                    have c_10' : v3_9.toInt < length_5.toInt := jb_ge_n (rfl) (rfl) c_10
                    refine lv_iload_n hx hb dX1_placeOf_65 rfl (lv_at hl 3 rfl) ?_
                    refine lv_iload hx hb dX1_placeOf_66 (lv_at hl 5 rfl) ?_
                    refine lv_isub hx hb dX1_placeOf_68 ?_
                    refine lv_topi (fun z_11 ez_11 => ?_)
                    have hz_11 : z_11.toInt = v3_9.toInt - v3_7.toInt := by rw [ez_11]; exact jb_isub2 (rfl) (rfl) (by omega)
                    refine lv_iload_n hx hb dX1_placeOf_69 rfl (lv_at hl 2 rfl) ?_
                    refine lv_icmp_ge (tgt := 101) hx hb dX1_placeOf_70 (by decide) (fun c_12 => ?_) (fun c_12 => ?_)
                    · skip
                      have c_12' : z_11.toInt ≥ a2.toInt := jb_ge (rfl) (rfl) c_12
                      refine lv_iload_n hx hb dX1_placeOf_101 rfl (lv_at hl 3 rfl) ?_
                      rw [hQ]
                      exact W.iret (v := v3_9) hx hb hr (fun t ht hW => ⟨⟨v3_9, (), rfl, by first | omega | (refine ⟨?_, ?_⟩ <;> (first | omega | rfl | assumption | decide | exact Or.inl rfl | exact Or.inr rfl | (simp only; omega))), hh_9.rt (M1 := []) [] rfl ht⟩, by rw [ht]; try exact hh_9.1.1, fun q h9 hq => by rw [ht]; try exact hh_9.1.2.1 q h9 hq⟩) hh_9.1.2.2 dX1_placeOf_102
                    · skip
                      have c_12' : z_11.toInt < a2.toInt := jb_ge_n (rfl) (rfl) c_12
                      refine lv_aload_n hx hb dX1_placeOf_73 rfl (lv_at hl 0 rfl) ?_
                      obtain ⟨v_13, hv_13, hh_14⟩ := hh_9.pin (C := RX1) (T := TX1) (N := 17) hB3 rfl (by decide) hg_r0 (i := 2) (by decide) rfl
                      clear hh_9
                      obtain ⟨text_15, rfl, hg_text_15⟩ := hv_13
                      refine j7_read hx hb hown hK (C := RX1) (T := TX1) (N := 17) rfl hly_3_2 hlk_15 (hh_14.at 0 rfl) dX1_placeOf_74 ?_
                      refine lv_iload_n hx hb dX1_placeOf_77 rfl (lv_at hl 3 rfl) ?_
                      refine j7_iald hx hb hK hh_14 hB101 1 rfl (by decide) hg_text_15 (x := v3_9.toInt) (rfl) (by omega) dX1_placeOf_78 (fun z_16 (hz_16 : True) => ?_)
                      refine lv_bipush (v := 10) hx hb dX1_placeOf_79 (by decide) ?_
                      refine lv_icmp_eq (tgt := 101) hx hb dX1_placeOf_81 (by decide) (fun c_17 => ?_) (fun c_17 => ?_)
                      · skip
                        have c_17' : z_16.toInt = 10 := jb_eq (rfl) ((by decide)) c_17
                        refine lv_iload_n hx hb dX1_placeOf_101 rfl (lv_at hl 3 rfl) ?_
                        rw [hQ]
                        exact W.iret (v := v3_9) hx hb hr (fun t ht hW => ⟨⟨v3_9, (), rfl, by first | omega | (refine ⟨?_, ?_⟩ <;> (first | omega | rfl | assumption | decide | exact Or.inl rfl | exact Or.inr rfl | (simp only; omega))), hh_14.rt (M1 := []) [] rfl ht⟩, by rw [ht]; try exact hh_14.1.1, fun q h9 hq => by rw [ht]; try exact hh_14.1.2.1 q h9 hq⟩) hh_14.1.2.2 dX1_placeOf_102
                      · skip
                        have c_17' : z_16.toInt ≠ 10 := jb_eq_n (rfl) ((by decide)) c_17
                        refine lv_aload_n hx hb dX1_placeOf_84 rfl (lv_at hl 0 rfl) ?_
                        refine j7_read hx hb hown hK (C := RX1) (T := TX1) (N := 17) rfl hly_3_2 hlk_15 (hh_14.at 0 rfl) dX1_placeOf_85 ?_
                        refine lv_iload_n hx hb dX1_placeOf_88 rfl (lv_at hl 3 rfl) ?_
                        refine j7_iald hx hb hK hh_14 hB101 1 rfl (by decide) hg_text_15 (x := v3_9.toInt) (rfl) (by omega) dX1_placeOf_89 (fun z_18 (hz_18 : True) => ?_)
                        refine lv_bipush (v := 13) hx hb dX1_placeOf_90 (by decide) ?_
                        refine lv_icmp_eq (tgt := 101) hx hb dX1_placeOf_92 (by decide) (fun c_19 => ?_) (fun c_19 => ?_)
                        · skip
                          have c_19' : z_18.toInt = 13 := jb_eq (rfl) ((by decide)) c_19
                          refine lv_iload_n hx hb dX1_placeOf_101 rfl (lv_at hl 3 rfl) ?_
                          rw [hQ]
                          exact W.iret (v := v3_9) hx hb hr (fun t ht hW => ⟨⟨v3_9, (), rfl, by first | omega | (refine ⟨?_, ?_⟩ <;> (first | omega | rfl | assumption | decide | exact Or.inl rfl | exact Or.inr rfl | (simp only; omega))), hh_14.rt (M1 := []) [] rfl ht⟩, by rw [ht]; try exact hh_14.1.1, fun q h9 hq => by rw [ht]; try exact hh_14.1.2.1 q h9 hq⟩) hh_14.1.2.2 dX1_placeOf_102
                        · skip
                          have c_19' : z_18.toInt ≠ 13 := jb_eq_n (rfl) ((by decide)) c_19
                          obtain ⟨z_20, ez_20⟩ : ∃ y : Int32, y = v3_9 + 1 := ⟨_, rfl⟩
                          refine lv_iinc (v := z_20) (lv' := [(3, .int z_20), (0, .ref r0), (1, .int a1), (2, .int a2), (4, .int v4_7), (5, .int v3_7)]) hx hb dX1_placeOf_95 hl (k := 3) rfl (by rw [ez_20]; rfl) (by decide) rfl (fun ls hl => ?_)
                          have hz_20 : z_20.toInt = v3_9.toInt + 1 := by rw [ez_20]; exact jb_iadd2 (rfl) (by decide) (by omega)
                          refine lv_goto (tgt := 57) hx hb dX1_placeOf_98 (by decide) ?_
                          exact L57 z_20 _ _ (hh_14.sub (L1 := [(r0, 3, 3, .int length_5)]) [1] rfl (M1 := []) [] rfl (I1 := []) [] rfl) (by first | omega | (refine ⟨?_, ?_⟩ <;> (first | omega | rfl | assumption | decide | exact Or.inl rfl | exact Or.inr rfl | (simp only; omega)))) (by omega) _ (lv_sub hl [1, 2, 3, 0, 4, 5] rfl)
              exact L57 (length_5.toInt - (v3_7 : Int32).toInt : Int).toNat.succ v3_7 _ _ hh_7 (by first | omega | (refine ⟨?_, ?_⟩ <;> (first | omega | rfl | assumption | decide | exact Or.inl rfl | exact Or.inr rfl | (simp only; omega)))) (by omega) _ (lv_sub hl [1, 2, 3, 4, 5, 0] rfl)
            · skip
              have c_8' : v4_7.toInt < a1.toInt := jb_ge_n (rfl) (rfl) c_8
              refine lv_iconst (v := (-1)) hx hb dX1_placeOf_52 (by decide) ?_
              rw [hQ]
              exact W.iret (v := (-1)) hx hb hr (fun t ht hW => ⟨⟨(-1), (), rfl, by first | omega | (refine ⟨?_, ?_⟩ <;> (first | omega | rfl | assumption | decide | exact Or.inl rfl | exact Or.inr rfl | (simp only; omega))), hh_7.rt (M1 := []) [] rfl ht⟩, by rw [ht]; try exact hh_7.1.1, fun q h9 hq => by rw [ht]; try exact hh_7.1.2.1 q h9 hq⟩) hh_7.1.2.2 dX1_placeOf_53
          refine lv_icmp_ge (tgt := 46) hx hb dX1_placeOf_20 (by decide) (fun c_21 => ?_) (fun c_21 => ?_)
          · skip
            have c_21' : v3_6.toInt ≥ length_5.toInt := jb_ge (rfl) (rfl) c_21
            exact C46 v3_6 v4_6 _ _ hh_6 (by first | omega | (refine ⟨?_, ?_, ?_⟩ <;> (first | omega | rfl | assumption | decide | exact Or.inl rfl | exact Or.inr rfl | (simp only; omega)))) _ (lv_sub hl [0, 1, 2, 3, 4] rfl)
          · skip
            have c_21' : v3_6.toInt < length_5.toInt := jb_ge_n (rfl) (rfl) c_21
            refine lv_iload hx hb dX1_placeOf_23 (lv_at hl 4 rfl) ?_
            refine lv_iload_n hx hb dX1_placeOf_25 rfl (lv_at hl 1 rfl) ?_
            refine lv_icmp_ge (tgt := 46) hx hb dX1_placeOf_26 (by decide) (fun c_22 => ?_) (fun c_22 => ?_)
            · skip
              have c_22' : v4_6.toInt ≥ a1.toInt := jb_ge (rfl) (rfl) c_22
              exact C46 v3_6 v4_6 _ _ hh_6 (by first | omega | (refine ⟨?_, ?_, ?_⟩ <;> (first | omega | rfl | assumption | decide | exact Or.inl rfl | exact Or.inr rfl | (simp only; omega)))) _ (lv_sub hl [0, 1, 2, 3, 4] rfl)
            · skip
              have c_22' : v4_6.toInt < a1.toInt := jb_ge_n (rfl) (rfl) c_22
              refine lv_aload_n hx hb dX1_placeOf_29 rfl (lv_at hl 0 rfl) ?_
              refine lv_iload_n hx hb dX1_placeOf_30 rfl (lv_at hl 3 rfl) ?_
              refine va_calli (A0 := jA base) (H0 := s.heap) (va_runV (As := [.int v3_6]) (rest := []) ⟨hx, hb, hml, hown, hts⟩ (uX1_endsLine l dC dI ca base B hB hAp hB3 hB101 G0 H_6 r0 v3_6 n0 length_5) (cwV 1 hts (jgV (jWr_29 _ (List.mem_of_getElem? (i := 6) rfl)) (jWr_29 _ (List.mem_of_getElem? (i := 7) rfl)) (jWr_29 _ (List.mem_of_getElem? (i := 8) rfl)) (jWr_2 _ (List.mem_of_getElem? (i := 21) rfl)) (jWr_29 _ (List.mem_of_getElem? (i := 9) rfl))) rfl rfl rfl (by decide +kernel) ⟨by rw [← hR]; exact Nat.le_of_ble_eq_true rfl, by rw [← hR]; exact Nat.le_of_ble_eq_true rfl⟩) ⟨fun a U g mk q => by obtain ⟨q0, q1, q2, qK, q10, q11, q12⟩ := q; exact ⟨q0, q1, q2, jG.calling g mk a qK, q10, q11, q12⟩, hh_6.recv (C := RX1) (T := TX1) (N := 17) hB3 rfl (by decide) hg_r0 hK, fun U hU hW => ⟨rfl, hU, hh_6.2.1, hG.step hW hU hh_6.1, hg_r0, (hh_6.2.2.1.sub (L1 := [(r0, 3, 3, .int length_5)]) [0] rfl), by first | omega | (refine ⟨?_, ?_, ?_⟩ <;> (first | omega | rfl | assumption | decide | exact Or.inl rfl | exact Or.inr rfl | (simp only; omega)))⟩⟩ rfl rfl hl.1 rfl (lv_room (Nat.le_of_ble_eq_true rfl)) dX1_placeOf_31 ⟨Nat.zero_le _, Nat.zero_le _⟩) hh_6.1 (fun q _ h => h) (fun q h => h) (fun r_24 u_23 t_23 H_23 locs_23 ht_23 hvm_23 hr_24 hb_23 hz_23 hk_23 hS_23 => ?_)
              rw [ht_23] at hb_23
              obtain ⟨hb_231, hb_232, hb_233, hb_234, hb_235⟩ := hb_23
              have hh_23 : jSt (dC, dI) B base G0 G0 EX1_placeOf s.heap 0 0 [(r0, 3, 3, .int length_5)] [] [] H_23 locs_23 := ((hh_6.call hb_231 hb_232 hb_233 hb_234 hS_23 rfl (L1 := [(r0, 3, 3, .int length_5)]) [0] rfl rfl (M1 := []) [] rfl rfl (I1 := []) [] rfl rfl).more hb_235)
              clear hh_6 ht_23 hvm_23 hz_23 hk_23 hS_23 hb_231 hb_232 hb_233 hb_234 hb_235
              obtain ⟨hr_24b, hr_24p⟩ := hr_24
              have hr_24' := jb_01 hr_24b
              refine lv_if_eq (tgt := 40) hx hb dX1_placeOf_34 (by decide) (fun c_25 => ?_) (fun c_25 => ?_)
              · skip
                have c_25' : r_24.toInt = 0 := jb_eq (rfl) ((by decide)) c_25
                obtain ⟨z_26, ez_26⟩ : ∃ y : Int32, y = v3_6 + 1 := ⟨_, rfl⟩
                refine lv_iinc (v := z_26) (lv' := [(3, .int z_26), (0, .ref r0), (1, .int a1), (2, .int a2), (4, .int v4_6)]) hx hb dX1_placeOf_40 hl (k := 3) rfl (by rw [ez_26]; rfl) (by decide) rfl (fun ls hl => ?_)
                have hz_26 : z_26.toInt = v3_6.toInt + 1 := by rw [ez_26]; exact jb_iadd2 (rfl) (by decide) (by omega)
                refine lv_goto (tgt := 15) hx hb dX1_placeOf_43 (by decide) ?_
                exact L15 z_26 v4_6 _ _ hh_23 (by first | omega | (refine ⟨?_, ?_, ?_, ?_⟩ <;> (first | omega | rfl | assumption | decide | exact Or.inl rfl | exact Or.inr rfl | (simp only; omega)))) (by omega) _ (lv_sub hl [1, 2, 3, 0, 4] rfl)
              · skip
                have c_25' : r_24.toInt ≠ 0 := jb_eq_n (rfl) ((by decide)) c_25
                obtain ⟨z_27, ez_27⟩ : ∃ y : Int32, y = v4_6 + 1 := ⟨_, rfl⟩
                refine lv_iinc (v := z_27) (lv' := [(4, .int z_27), (0, .ref r0), (1, .int a1), (2, .int a2), (3, .int v3_6)]) hx hb dX1_placeOf_37 hl (k := 4) rfl (by rw [ez_27]; rfl) (by decide) rfl (fun ls hl => ?_)
                have hz_27 : z_27.toInt = v4_6.toInt + 1 := by rw [ez_27]; exact jb_iadd2 (rfl) (by decide) (by omega)
                obtain ⟨z_28, ez_28⟩ : ∃ y : Int32, y = v3_6 + 1 := ⟨_, rfl⟩
                refine lv_iinc (v := z_28) (lv' := [(3, .int z_28), (4, .int z_27), (0, .ref r0), (1, .int a1), (2, .int a2)]) hx hb dX1_placeOf_40 hl (k := 4) rfl (by rw [ez_28]; rfl) (by decide) rfl (fun ls hl => ?_)
                have hz_28 : z_28.toInt = v3_6.toInt + 1 := by rw [ez_28]; exact jb_iadd2 (rfl) (by decide) (by omega)
                refine lv_goto (tgt := 15) hx hb dX1_placeOf_43 (by decide) ?_
                exact L15 z_28 z_27 _ _ hh_23 (by first | omega | (refine ⟨?_, ?_, ?_, ?_⟩ <;> (first | omega | rfl | assumption | decide | exact Or.inl rfl | exact Or.inr rfl | (simp only; omega)))) (by omega) _ (lv_sub hl [2, 3, 4, 0, 1] rfl)
      exact L15 (length_5.toInt - (0 : Int32).toInt : Int).toNat.succ 0 0 _ _ hh_4 (by first | omega | (refine ⟨?_, ?_, ?_, ?_⟩ <;> (first | omega | rfl | assumption | decide | exact Or.inl rfl | exact Or.inr rfl | (simp only; omega)))) (by omega) _ (lv_sub hl [2, 3, 4, 1, 0] rfl)
    · skip
      have c_2' : a2.toInt < 0 := jb_ge_n (rfl) ((by decide)) c_2
      refine lv_iconst (v := (-1)) hx hb dX1_placeOf_8 (by decide) ?_
      rw [hQ]
      exact W.iret (v := (-1)) hx hb hr (fun t ht hW => ⟨⟨(-1), (), rfl, by first | omega | (refine ⟨?_, ?_⟩ <;> (first | omega | rfl | assumption | decide | exact Or.inl rfl | exact Or.inr rfl | (simp only; omega))), hh.rt (M1 := []) [] rfl ht⟩, by rw [ht]; try exact hh.1.1, fun q h9 hq => by rw [ht]; try exact hh.1.2.1 q h9 hq⟩) hh.1.2.2 dX1_placeOf_9
set_option maxHeartbeats 4000000 in
set_option maxRecDepth 20000 in
theorem uX1_part (l : Launch) (dC : Nat → ClassId) (dI : Nat → Nat → Nat) (ca : Nat → ClassId) (base : Nat) (B : jF) (hB : jBok B) (hAp : jAp (dC, dI)) (hB3 : ∀ n G a H, B 3 n G a H ↔ jOb (dC, dI) 3 17 (F3 n G) a H) (hB8 : ∀ n G a H, B 8 n G a H ↔ jOb (dC, dI) 8 4 (F8 n G) a H) (hB12 : ∀ n G a H, B 12 n G a H ↔ jOb (dC, dI) 12 11 (F12 n G) a H) (hB101 : ∀ n G a H, B 101 n G a H ↔ jAr (dC, dI) (ca 1) (fun j z => True) n a H) (hB102 : ∀ n G a H, B 102 n G a H ↔ jAl (dC, dI) (ca 2) n a H) (hB132 : ∀ n G a H, B 132 n G a H ↔ jAr (dC, dI) (ca 1) (fun j z => 0 ≤ z.toInt ∧ z.toInt ≤ 10) n a H) (hB133 : ∀ n G a H, B 133 n G a H ↔ jAr (dC, dI) (ca 1) (fun j z => 0 ≤ z.toInt ∧ z.toInt ≤ 8192) n a H) (hB171 : ∀ n G a H, B 171 n G a H ↔ jAr (dC, dI) (ca 1) (fun j z => 0 ≤ z.toInt ∧ z.toInt ≤ 1500) n a H) (hB172 : ∀ n G a H, B 172 n G a H ↔ jAr (dC, dI) (ca 1) (fun j z => 0 ≤ z.toInt ∧ z.toInt ≤ 1500) n a H) (G0 : jT) (H0 : Heap) (r0 : Nat) (r1 : Nat) (n0 : Nat) : Met l yX1_part (jw yX1_part cX1_part 5 none) ({ frames := 6, cells := 0, slots := 0, locals := 208 }) (va_Pc [.ref r0, .ref r1] (fun U => U.heap = H0 ∧ jX B base G0 [] H0 ∧ jG dC dI ca base U ∧ G0 r0 = some (3, n0) ∧ G0 r1 = some (12, 0) ∧ jP (dC, dI) G0 H0 [] ∧ True)) (va_Qv (S := Unit) (fun u => True) (fun u t => jRt (dC, dI) B base G0 EX1_part H0 [] t.heap) (jA base)) 0 0 (jA base) := by
  refine Met.ofW (cc := cX1_part) (maxL := 5) (ret := none) (by decide) rfl ?_
  intro p e s m args below meth c s₁ Bd hml hv
  obtain ⟨rfl, hH0, hX, hG, hg_r0, hg_r1, hP0, hp0⟩ := hv
  have hK := hG.1
  have hx := Bd.exec
  have hb := Bd.bytes
  have hr := Bd.returns
  have hts := atoms_spec (ws := (jw yX1_part cX1_part 5 none)) Bd.pre
  have htw : ∀ w ∈ jWl, w.before _ s = true := fun w h => hts w (List.mem_cons_of_mem _ h)
  have hown : s.vm.findClass RX1 = some m.cls := findClass_of_methodNamed Bd.named
  have hlocks := Bd.notSynchronized
  obtain ⟨Q, hQ⟩ : ∃ Q, Q = MQ below (va_Qv (S := Unit) (fun u => True) (fun u t => jRt (dC, dI) B base G0 EX1_part H0 [] t.heap) (jA base)) ([.ref r0, .ref r1] : List Value).toArray s 0 0 (jA base) := ⟨_, rfl⟩
  rw [← hQ]
  have hl := lv_entry ([.ref r0, .ref r1]) (n := 5) (Nat.le_of_ble_eq_true rfl)
  rw [lg_entry_eq]
  generalize (lg_sl ([.ref r0, .ref r1]) ++ List.replicate (5 - (lg_sl ([.ref r0, .ref r1])).length) Slot.unset).toArray = ls at hl ⊢
  have hl : lv_has ls 5 [(0, .ref r0), (1, .ref r1)] := hl
  generalize hR : (headSpec (jw yX1_part cX1_part 5 none) ({ frames := 6, cells := 0, slots := 0, locals := 208 })).room = R
  subst hH0
  have hh : jSt (dC, dI) B base G0 G0 EX1_part s.heap 0 0 [] [] [] s.heap [] := jSt.start hX hP0 jMc.nil jIs.nil
  clear hX hP0
  have hk0 : (0 : Int32).toInt = 0 := by decide
  have hk1 : (1 : Int32).toInt = 1 := by decide
  have hk2 : (2 : Int32).toInt = 2 := by decide
  have hk3 : (3 : Int32).toInt = 3 := by decide
  have hk39 : (39 : Int32).toInt = 39 := by decide
  have hk40 : (40 : Int32).toInt = 40 := by decide
  have hly_3_2 := htw (u_lay RX1 TX1 2) (jWc_wsX10 _ (u_in_lay (by decide)))
  have hly_3_3 := htw (u_lay RX1 TX1 3) (jWc_wsX10 _ (u_in_lay (by decide)))
  have hly_3_4 := htw (u_lay RX1 TX1 4) (jWc_wsX10 _ (u_in_lay (by decide)))
  have hly_3_5 := htw (u_lay RX1 TX1 5) (jWc_wsX10 _ (u_in_lay (by decide)))
  have hly_3_6 := htw (u_lay RX1 TX1 6) (jWc_wsX10 _ (u_in_lay (by decide)))
  have hly_3_7 := htw (u_lay RX1 TX1 7) (jWc_wsX10 _ (u_in_lay (by decide)))
  have hly_3_8 := htw (u_lay RX1 TX1 8) (jWc_wsX10 _ (u_in_lay (by decide)))
  have hlk_69 := (htw (.fieldLink RX1 69 "ProofServer$Document" "sentences" "I") (jWr_29 _ (List.mem_of_getElem? (i := 14) rfl)))
  have hlk_42 := (htw (.fieldLink RX1 42 "ProofServer$Document" "length" "I") (jWr_29 _ (List.mem_of_getElem? (i := 5) rfl)))
  have hlk_18 := (htw (.fieldLink RX1 18 "ProofServer$Document" "starts" "[I") (jWr_10 _ (List.mem_of_getElem? (i := 7) rfl)))
  have hlk_21 := (htw (.fieldLink RX1 21 "ProofServer$Document" "ends" "[I") (jWr_10 _ (List.mem_of_getElem? (i := 8) rfl)))
  have hlk_27 := (htw (.fieldLink RX1 27 "ProofServer$Document" "early" "[I") (jWr_10 _ (List.mem_of_getElem? (i := 10) rfl)))
  have hlk_24 := (htw (.fieldLink RX1 24 "ProofServer$Document" "costs" "[I") (jWr_10 _ (List.mem_of_getElem? (i := 9) rfl)))
  have hlk_15 := (htw (.fieldLink RX1 15 "ProofServer$Document" "text" "[I") (jWr_10 _ (List.mem_of_getElem? (i := 6) rfl)))
  refine lv_aload_n hx hb dX1_part_0 rfl (lv_at hl 0 rfl) ?_
  refine lv_iconst (v := 0) hx hb dX1_part_1 (by decide) ?_
  refine j7_put hx hb hown hK hh hB hAp hB3 (C := RX1) (T := TX1) (N := 17) rfl (by decide) hg_r0 (i := 4) (by decide) hly_3_4 rfl hlk_69 rfl (ty := .int) (v := .int 0) (by decide +kernel) rfl rfl (⟨_, rfl, by omega, by omega⟩) rfl (L1 := []) [] rfl rfl rfl dX1_part_2 (fun H_1 locs_1 hh_1 => ?_)
  clear hh
  refine lv_aload_n hx hb dX1_part_5 rfl (lv_at hl 0 rfl) ?_
  refine lv_iconst (v := 0) hx hb dX1_part_6 (by decide) ?_
  refine va_calli (A0 := jA base) (H0 := s.heap) (va_runV (As := [.int 0]) (rest := []) ⟨hx, hb, hml, hown, hts⟩ (uX1_sentenceBegin l dC dI ca base B hB hAp hB3 hB101 G0 H_1 r0 0 n0) (cwV 1 hts (jgV (jWr_36 _ (List.mem_of_getElem? (i := 6) rfl)) (jWr_36 _ (List.mem_of_getElem? (i := 7) rfl)) (jWr_36 _ (List.mem_of_getElem? (i := 8) rfl)) (jWr_2 _ (List.mem_of_getElem? (i := 21) rfl)) (jWr_36 _ (List.mem_of_getElem? (i := 9) rfl))) rfl rfl rfl (by decide +kernel) ⟨by rw [← hR]; exact Nat.le_of_ble_eq_true rfl, by rw [← hR]; exact Nat.le_of_ble_eq_true rfl⟩) ⟨fun a U g mk q => by obtain ⟨q0, q1, q2, qK, q10, q11, q12⟩ := q; exact ⟨q0, q1, q2, jG.calling g mk a qK, q10, q11, q12⟩, hh_1.recv (C := RX1) (T := TX1) (N := 17) hB3 rfl (by decide) hg_r0 hK, fun U hU hW => ⟨rfl, hU, hh_1.2.1, hG.step hW hU hh_1.1, hg_r0, jP.nil, by first | omega | (refine ⟨?_, ?_⟩ <;> (first | omega | rfl | assumption | decide | exact Or.inl rfl | exact Or.inr rfl | (simp only; omega)))⟩⟩ rfl rfl hl.1 rfl (lv_room (Nat.le_of_ble_eq_true rfl)) dX1_part_7 ⟨Nat.zero_le _, Nat.zero_le _⟩) hh_1.1 (fun q _ h => h) (fun q h => h) (fun r_3 u_2 t_2 H_2 locs_2 ht_2 hvm_2 hr_3 hb_2 hz_2 hk_2 hS_2 => ?_)
  rw [ht_2] at hb_2
  obtain ⟨hb_21, hb_22, hb_23, hb_24, hb_25⟩ := hb_2
  have hh_2 : jSt (dC, dI) B base G0 G0 EX1_part s.heap 0 0 [(r0, 3, 4, .int 0)] [] [] H_2 locs_2 := ((hh_1.call hb_21 hb_22 hb_23 hb_24 hS_2 rfl (L1 := [(r0, 3, 4, .int 0)]) [0] rfl rfl (M1 := []) [] rfl rfl (I1 := []) [] rfl rfl).more hb_25)
  clear hh_1 ht_2 hvm_2 hz_2 hk_2 hS_2 hb_21 hb_22 hb_23 hb_24 hb_25
  obtain ⟨hr_3_0, hr_3_1⟩ := hr_3
  refine lv_istore_n (lv' := [(2, .int r_3), (0, .ref r0), (1, .ref r1)]) hx hb dX1_part_10 rfl hl (by decide) rfl (fun ls hl => ?_)
  refine lv_iconst (v := 0) hx hb dX1_part_11 (by decide) ?_
  refine lv_istore_n (lv' := [(3, .int 0), (2, .int r_3), (0, .ref r0), (1, .ref r1)]) hx hb dX1_part_12 rfl hl (by decide) rfl (fun ls hl => ?_)
  obtain ⟨v_4, hv_4, hh_5⟩ := hh_2.pin (C := RX1) (T := TX1) (N := 17) hB3 rfl (by decide) hg_r0 (i := 3) (by decide) rfl
  obtain ⟨length_6, rfl, hlolength_6, hhilength_6⟩ := hv_4
  have L13 : ∀ (N : Nat) (v2_7 : Int32) (v3_7 : Int32) (H_7 : Heap) (locs_7 : List Loc), jSt (dC, dI) B base G0 G0 EX1_part s.heap 0 0 [(r0, 3, 3, .int length_6)] [] [] H_7 locs_7 → (0 ≤ v3_7.toInt ∧ v3_7.toInt ≤ 40 ∧ 0 ≤ v2_7.toInt ∧ v2_7.toInt ≤ 1500) → (40 - v3_7.toInt : Int) < N → ∀ ls : Array Slot, lv_has ls 5 [(0, .ref r0), (1, .ref r1), (2, .int v2_7), (3, .int v3_7)] → W p l e R s m ([.ref r0, .ref r1] : List Value).toArray below meth c H_7 locs_7 0 0 Q (F0 m 13 ls []) := by
    intro N
    induction N with
    | zero => intro v2_7 v3_7 H_7 locs_7 hh_7  hi_7 hm; exact absurd hm (by omega)
    | succ N L13 =>
      intro v2_7 v3_7 H_7 locs_7 hh_7  hi_7 hm_7 ls hl
      obtain ⟨hi_7_0, hi_7_1, hi_7_2, hi_7_3⟩ := hi_7
      refine lv_iload_n hx hb dX1_part_13 rfl (lv_at hl 3 rfl) ?_
      refine lv_bipush (v := 40) hx hb dX1_part_14 (by decide) ?_
      have C101 : ∀ (v2_8 : Int32) (v3_8 : Int32) (H_8 : Heap) (locs_8 : List Loc), jSt (dC, dI) B base G0 G0 EX1_part s.heap 0 0 [(r0, 3, 3, .int length_6)] [] [] H_8 locs_8 → (True) → ∀ ls : Array Slot, lv_has ls 5 [(0, .ref r0), (1, .ref r1), (2, .int v2_8), (3, .int v3_8)] → W p l e R s m ([.ref r0, .ref r1] : List Value).toArray below meth c H_8 locs_8 0 0 Q (F0 m 101 ls []) := by
        intro v2_8 v3_8 H_8 locs_8 hh_8  hi_8 ls hl
        refine lv_iload_n hx hb dX1_part_101 rfl (lv_at hl 2 rfl) ?_
        refine lv_aload_n hx hb dX1_part_102 rfl (lv_at hl 0 rfl) ?_
        refine j7_read hx hb hown hK (C := RX1) (T := TX1) (N := 17) rfl hly_3_3 hlk_42 (hh_8.at 0 rfl) dX1_part_103 ?_
        have C137 : ∀ (H_9 : Heap) (locs_9 : List Loc), jSt (dC, dI) B base G0 G0 EX1_part s.heap 0 0 [(r0, 3, 3, .int length_6)] [] [] H_9 locs_9 → (True) → ∀ ls : Array Slot, lv_has ls 5 [(0, .ref r0), (1, .ref r1), (2, .int v2_8), (3, .int v3_8)] → W p l e R s m ([.ref r0, .ref r1] : List Value).toArray below meth c H_9 locs_9 0 0 Q (F0 m 137 ls []) := by
          intro  H_9 locs_9 hh_9  hi_9 ls hl
          refine lv_iconst (v := 0) hx hb dX1_part_137 (by decide) ?_
          refine lv_istore_n (lv' := [(3, .int 0), (0, .ref r0), (1, .ref r1), (2, .int v2_8)]) hx hb dX1_part_138 rfl hl (by decide) rfl (fun ls hl => ?_)
          obtain ⟨v_10, hv_10, hh_11⟩ := hh_9.pin (C := RX1) (T := TX1) (N := 17) hB3 rfl (by decide) hg_r0 (i := 4) (by decide) rfl
          obtain ⟨sentences_12, rfl, hlosentences_12, hhisentences_12⟩ := hv_10
          have L139 : ∀ (N : Nat) (v3_13 : Int32) (H_13 : Heap) (locs_13 : List Loc), jSt (dC, dI) B base G0 G0 EX1_part s.heap 0 0 [(r0, 3, 4, .int sentences_12), (r0, 3, 3, .int length_6)] [] [] H_13 locs_13 → (0 ≤ v3_13.toInt ∧ v3_13.toInt ≤ sentences_12.toInt) → (sentences_12.toInt - v3_13.toInt : Int) < N → ∀ ls : Array Slot, lv_has ls 5 [(0, .ref r0), (1, .ref r1), (2, .int v2_8), (3, .int v3_13)] → W p l e R s m ([.ref r0, .ref r1] : List Value).toArray below meth c H_13 locs_13 0 0 Q (F0 m 139 ls []) := by
            intro N
            induction N with
            | zero => intro v3_13 H_13 locs_13 hh_13  hi_13 hm; exact absurd hm (by omega)
            | succ N L139 =>
              intro v3_13 H_13 locs_13 hh_13  hi_13 hm_13 ls hl
              obtain ⟨hi_13_0, hi_13_1⟩ := hi_13
              refine lv_iload_n hx hb dX1_part_139 rfl (lv_at hl 3 rfl) ?_
              refine lv_aload_n hx hb dX1_part_140 rfl (lv_at hl 0 rfl) ?_
              refine j7_read hx hb hown hK (C := RX1) (T := TX1) (N := 17) rfl hly_3_4 hlk_69 (hh_13.at 0 rfl) dX1_part_141 ?_
              refine lv_icmp_ge (tgt := 194) hx hb dX1_part_144 (by decide) (fun c_14 => ?_) (fun c_14 => ?_)
              · skip
                have c_14' : v3_13.toInt ≥ sentences_12.toInt := jb_ge (rfl) (rfl) c_14
                rw [hQ]
                exact W.vret hx hb hr (fun t ht hW => ⟨⟨(), rfl, trivial, hh_13.rt (M1 := []) [] rfl ht⟩, by rw [ht]; try exact hh_13.1.1, fun q h9 hq => by rw [ht]; try exact hh_13.1.2.1 q h9 hq⟩) hh_13.1.2.2 dX1_part_194
              · skip
                have c_14' : v3_13.toInt < sentences_12.toInt := jb_ge_n (rfl) (rfl) c_14
                refine lv_aload_n hx hb dX1_part_147 rfl (lv_at hl 0 rfl) ?_
                obtain ⟨v_15, hv_15, hh_16⟩ := hh_13.pin (C := RX1) (T := TX1) (N := 17) hB3 rfl (by decide) hg_r0 (i := 7) (by decide) rfl
                clear hh_13
                obtain ⟨costs_17, rfl, hg_costs_17⟩ := hv_15
                refine j7_read hx hb hown hK (C := RX1) (T := TX1) (N := 17) rfl hly_3_7 hlk_24 (hh_16.at 0 rfl) dX1_part_148 ?_
                refine lv_iload_n hx hb dX1_part_151 rfl (lv_at hl 3 rfl) ?_
                refine lv_iconst (v := 3) hx hb dX1_part_152 (by decide) ?_
                refine lv_aload_n hx hb dX1_part_153 rfl (lv_at hl 0 rfl) ?_
                obtain ⟨v_18, hv_18, hh_19⟩ := hh_16.pin (C := RX1) (T := TX1) (N := 17) hB3 rfl (by decide) hg_r0 (i := 8) (by decide) rfl
                clear hh_16
                obtain ⟨early_20, rfl, hg_early_20⟩ := hv_18
                refine j7_read hx hb hown hK (C := RX1) (T := TX1) (N := 17) rfl hly_3_8 hlk_27 (hh_19.at 0 rfl) dX1_part_154 ?_
                refine lv_iload_n hx hb dX1_part_157 rfl (lv_at hl 3 rfl) ?_
                refine j7_iald hx hb hK hh_19 hB101 1 rfl (by decide) hg_early_20 (x := v3_13.toInt) (rfl) (by omega) dX1_part_158 (fun z_21 (hz_21 : True) => ?_)
                refine lv_if_le (tgt := 166) hx hb dX1_part_159 (by decide) (fun c_22 => ?_) (fun c_22 => ?_)
                · skip
                  have c_22' : z_21.toInt ≤ 0 := jb_le (rfl) ((by decide)) c_22
                  refine lv_aload_n hx hb dX1_part_166 rfl (lv_at hl 1 rfl) ?_
                  refine lv_aload_n hx hb dX1_part_167 rfl (lv_at hl 0 rfl) ?_
                  obtain ⟨v_23, hv_23, hh_24⟩ := hh_19.pin (C := RX1) (T := TX1) (N := 17) hB3 rfl (by decide) hg_r0 (i := 2) (by decide) rfl
                  clear hh_19
                  obtain ⟨text_25, rfl, hg_text_25⟩ := hv_23
                  refine j7_read hx hb hown hK (C := RX1) (T := TX1) (N := 17) rfl hly_3_2 hlk_15 (hh_24.at 0 rfl) dX1_part_168 ?_
                  refine lv_aload_n hx hb dX1_part_171 rfl (lv_at hl 0 rfl) ?_
                  obtain ⟨v_26, hv_26, hh_27⟩ := hh_24.pin (C := RX1) (T := TX1) (N := 17) hB3 rfl (by decide) hg_r0 (i := 5) (by decide) rfl
                  clear hh_24
                  obtain ⟨starts_28, rfl, hg_starts_28⟩ := hv_26
                  refine j7_read hx hb hown hK (C := RX1) (T := TX1) (N := 17) rfl hly_3_5 hlk_18 (hh_27.at 0 rfl) dX1_part_172 ?_
                  refine lv_iload_n hx hb dX1_part_175 rfl (lv_at hl 3 rfl) ?_
                  refine j7_iald hx hb hK hh_27 hB171 1 rfl (by decide) hg_starts_28 (x := v3_13.toInt) (rfl) (by omega) dX1_part_176 (fun z_29 (hz_29 : 0 ≤ z_29.toInt ∧ z_29.toInt ≤ 1500) => ?_)
                  refine lv_aload_n hx hb dX1_part_177 rfl (lv_at hl 0 rfl) ?_
                  obtain ⟨v_30, hv_30, hh_31⟩ := hh_27.pin (C := RX1) (T := TX1) (N := 17) hB3 rfl (by decide) hg_r0 (i := 6) (by decide) rfl
                  clear hh_27
                  obtain ⟨ends_32, rfl, hg_ends_32⟩ := hv_30
                  refine j7_read hx hb hown hK (C := RX1) (T := TX1) (N := 17) rfl hly_3_6 hlk_21 (hh_31.at 0 rfl) dX1_part_178 ?_
                  refine lv_iload_n hx hb dX1_part_181 rfl (lv_at hl 3 rfl) ?_
                  refine j7_iald hx hb hK hh_31 hB172 1 rfl (by decide) hg_ends_32 (x := v3_13.toInt) (rfl) (by omega) dX1_part_182 (fun z_33 (hz_33 : 0 ≤ z_33.toInt ∧ z_33.toInt ≤ 1500) => ?_)
                  refine va_calli (A0 := jA base) (H0 := s.heap) (va_runV (As := [.ref text_25, .int z_29, .int z_33]) (rest := [.int 3, .int v3_13, .ref costs_17]) ⟨hx, hb, hml, hown, hts⟩ (uX10_scan l dC dI ca base B hB hAp hB8 hB12 hB101 hB102 hB132 hB133 G0 H_13 r1 text_25 z_29 z_33 1500) (cwV 3 hts (jgV (jWr_36 _ (List.mem_of_getElem? (i := 19) rfl)) (jWr_36 _ (List.mem_of_getElem? (i := 20) rfl)) (jWr_36 _ (List.mem_of_getElem? (i := 21) rfl)) (jWr_4 _ (List.mem_of_getElem? (i := 14) rfl)) (jWr_36 _ (List.mem_of_getElem? (i := 22) rfl))) rfl rfl rfl (by decide +kernel) ⟨by rw [← hR]; exact Nat.le_of_ble_eq_true rfl, by rw [← hR]; exact Nat.le_of_ble_eq_true rfl⟩) ⟨fun a U g mk q => by obtain ⟨q0, q1, q2, qK, q10, q11, q12, q13⟩ := q; exact ⟨q0, q1, q2, jG.calling g mk a qK, q10, q11, q12, q13⟩, hh_31.recv (C := RX10) (T := TX10) (N := 11) hB12 rfl (by decide) hg_r1 hK, fun U hU hW => ⟨rfl, hU, hh_31.2.1, hG.step hW hU hh_31.1, hg_text_25, hg_r1, jP.nil, by first | omega | (refine ⟨?_, ?_⟩ <;> (first | omega | rfl | assumption | decide | exact Or.inl rfl | exact Or.inr rfl | (simp only; omega)))⟩⟩ rfl rfl hl.1 rfl (lv_room (Nat.le_of_ble_eq_true rfl)) dX1_part_183 ⟨Nat.zero_le _, Nat.zero_le _⟩) hh_31.1 (fun q _ h => h) (fun q h => h) (fun r_35 u_34 t_34 H_34 locs_34 ht_34 hvm_34 hr_35 hb_34 hz_34 hk_34 hS_34 => ?_)
                  rw [ht_34] at hb_34
                  obtain ⟨hb_341, hb_342, hb_343, hb_344, hb_345⟩ := hb_34
                  have hh_34 : jSt (dC, dI) B base G0 G0 EX1_part s.heap 0 0 [(r0, 3, 6, .ref ends_32), (r0, 3, 5, .ref starts_28), (r0, 3, 2, .ref text_25), (r0, 3, 8, .ref early_20), (r0, 3, 7, .ref costs_17), (r0, 3, 4, .int sentences_12), (r0, 3, 3, .int length_6)] [] [] H_34 locs_34 := ((hh_31.call hb_341 hb_342 hb_343 hb_344 hS_34 rfl (L1 := [(r0, 3, 6, .ref ends_32), (r0, 3, 5, .ref starts_28), (r0, 3, 2, .ref text_25), (r0, 3, 8, .ref early_20), (r0, 3, 7, .ref costs_17), (r0, 3, 4, .int sentences_12), (r0, 3, 3, .int length_6)]) [0, 1, 2, 3, 4, 5, 6] rfl rfl (M1 := []) [] rfl rfl (I1 := []) [] rfl rfl).more hb_345)
                  clear hh_31 ht_34 hvm_34 hz_34 hk_34 hS_34 hb_341 hb_342 hb_343 hb_344 hb_345
                  obtain ⟨hr_35_0, hr_35_1⟩ := hr_35
                  refine lv_iadd hx hb dX1_part_186 ?_
                  refine lv_topi (fun z_36 ez_36 => ?_)
                  refine j7_iast hx hb hK hh_34 hB hB101 1 rfl (by decide) (by decide) rfl rfl rfl hg_costs_17 (x := v3_13.toInt) (rfl) (by omega) (trivial) dX1_part_187 (fun H_37 locs_37 hh_37 => ?_)
                  clear hh_34
                  obtain ⟨z_38, ez_38⟩ : ∃ y : Int32, y = v3_13 + 1 := ⟨_, rfl⟩
                  refine lv_iinc (v := z_38) (lv' := [(3, .int z_38), (0, .ref r0), (1, .ref r1), (2, .int v2_8)]) hx hb dX1_part_188 hl (k := 3) rfl (by rw [ez_38]; rfl) (by decide) rfl (fun ls hl => ?_)
                  have hz_38 : z_38.toInt = v3_13.toInt + 1 := by rw [ez_38]; exact jb_iadd2 (rfl) (by decide) (by omega)
                  refine lv_goto (tgt := 139) hx hb dX1_part_191 (by decide) ?_
                  exact L139 z_38 _ _ (hh_37.sub (L1 := [(r0, 3, 4, .int sentences_12), (r0, 3, 3, .int length_6)]) [5, 6] rfl (M1 := []) [] rfl (I1 := []) [] rfl) (by first | omega | (refine ⟨?_, ?_⟩ <;> (first | omega | rfl | assumption | decide | exact Or.inl rfl | exact Or.inr rfl | (simp only; omega)))) (by omega) _ (lv_sub hl [1, 2, 3, 0] rfl)
                · skip
                  have c_22' : z_21.toInt > 0 := jb_le_n (rfl) ((by decide)) c_22
                  refine lv_iconst (v := 1) hx hb dX1_part_162 (by decide) ?_
                  refine lv_goto (tgt := 186) hx hb dX1_part_163 (by decide) ?_
                  refine lv_iadd hx hb dX1_part_186 ?_
                  refine lv_topi (fun z_39 ez_39 => ?_)
                  refine j7_iast hx hb hK hh_19 hB hB101 1 rfl (by decide) (by decide) rfl rfl rfl hg_costs_17 (x := v3_13.toInt) (rfl) (by omega) (trivial) dX1_part_187 (fun H_40 locs_40 hh_40 => ?_)
                  clear hh_19
                  obtain ⟨z_41, ez_41⟩ : ∃ y : Int32, y = v3_13 + 1 := ⟨_, rfl⟩
                  refine lv_iinc (v := z_41) (lv' := [(3, .int z_41), (0, .ref r0), (1, .ref r1), (2, .int v2_8)]) hx hb dX1_part_188 hl (k := 3) rfl (by rw [ez_41]; rfl) (by decide) rfl (fun ls hl => ?_)
                  have hz_41 : z_41.toInt = v3_13.toInt + 1 := by rw [ez_41]; exact jb_iadd2 (rfl) (by decide) (by omega)
                  refine lv_goto (tgt := 139) hx hb dX1_part_191 (by decide) ?_
                  exact L139 z_41 _ _ (hh_40.sub (L1 := [(r0, 3, 4, .int sentences_12), (r0, 3, 3, .int length_6)]) [2, 3] rfl (M1 := []) [] rfl (I1 := []) [] rfl) (by first | omega | (refine ⟨?_, ?_⟩ <;> (first | omega | rfl | assumption | decide | exact Or.inl rfl | exact Or.inr rfl | (simp only; omega)))) (by omega) _ (lv_sub hl [1, 2, 3, 0] rfl)
          exact L139 (sentences_12.toInt - (0 : Int32).toInt : Int).toNat.succ 0 _ _ hh_11 (by first | omega | (refine ⟨?_, ?_⟩ <;> (first | omega | rfl | assumption | decide | exact Or.inl rfl | exact Or.inr rfl | (simp only; omega)))) (by omega) _ (lv_sub hl [1, 2, 3, 0] rfl)
        refine lv_icmp_ge (tgt := 137) hx hb dX1_part_106 (by decide) (fun c_42 => ?_) (fun c_42 => ?_)
        · skip
          have c_42' : v2_8.toInt ≥ length_6.toInt := jb_ge (rfl) (rfl) c_42
          exact C137  _ _ hh_8 (trivial) _ (lv_sub hl [0, 1, 2, 3] rfl)
        · skip
          have c_42' : v2_8.toInt < length_6.toInt := jb_ge_n (rfl) (rfl) c_42
          refine lv_aload_n hx hb dX1_part_109 rfl (lv_at hl 0 rfl) ?_
          obtain ⟨v_43, hv_43, hh_44⟩ := hh_8.pin (C := RX1) (T := TX1) (N := 17) hB3 rfl (by decide) hg_r0 (i := 4) (by decide) rfl
          clear hh_8
          obtain ⟨sentences_45, rfl, hlosentences_45, hhisentences_45⟩ := hv_43
          refine j7_read hx hb hown hK (C := RX1) (T := TX1) (N := 17) rfl hly_3_4 hlk_69 (hh_44.at 0 rfl) dX1_part_110 ?_
          refine lv_bipush (v := 40) hx hb dX1_part_113 (by decide) ?_
          refine lv_icmp_ne (tgt := 137) hx hb dX1_part_115 (by decide) (fun c_46 => ?_) (fun c_46 => ?_)
          · skip
            have c_46' : sentences_45.toInt ≠ 40 := jb_ne (rfl) ((by decide)) c_46
            exact C137  _ _ (hh_44.sub (L1 := [(r0, 3, 3, .int length_6)]) [1] rfl (M1 := []) [] rfl (I1 := []) [] rfl) (trivial) _ (lv_sub hl [0, 1, 2, 3] rfl)
          · skip
            have c_46' : sentences_45.toInt = 40 := jb_ne_n (rfl) ((by decide)) c_46
            refine lv_aload_n hx hb dX1_part_118 rfl (lv_at hl 0 rfl) ?_
            obtain ⟨v_47, hv_47, hh_48⟩ := hh_44.pin (C := RX1) (T := TX1) (N := 17) hB3 rfl (by decide) hg_r0 (i := 6) (by decide) rfl
            clear hh_44
            obtain ⟨ends_49, rfl, hg_ends_49⟩ := hv_47
            refine j7_read hx hb hown hK (C := RX1) (T := TX1) (N := 17) rfl hly_3_6 hlk_21 (hh_48.at 0 rfl) dX1_part_119 ?_
            refine lv_bipush (v := 39) hx hb dX1_part_122 (by decide) ?_
            refine lv_aload_n hx hb dX1_part_124 rfl (lv_at hl 0 rfl) ?_
            refine j7_read hx hb hown hK (C := RX1) (T := TX1) (N := 17) rfl hly_3_3 hlk_42 (hh_48.at 2 rfl) dX1_part_125 ?_
            refine j7_iast hx hb hK hh_48 hB hB172 1 rfl (by decide) (by decide) rfl rfl rfl hg_ends_49 (x := 39) ((by decide)) (by omega) (by first | omega | (refine ⟨?_, ?_⟩ <;> (first | omega | rfl | assumption | decide | exact Or.inl rfl | exact Or.inr rfl | (simp only; omega)))) dX1_part_128 (fun H_50 locs_50 hh_50 => ?_)
            clear hh_48
            refine lv_aload_n hx hb dX1_part_129 rfl (lv_at hl 0 rfl) ?_
            obtain ⟨v_51, hv_51, hh_52⟩ := hh_50.pin (C := RX1) (T := TX1) (N := 17) hB3 rfl (by decide) hg_r0 (i := 8) (by decide) rfl
            clear hh_50
            obtain ⟨early_53, rfl, hg_early_53⟩ := hv_51
            refine j7_read hx hb hown hK (C := RX1) (T := TX1) (N := 17) rfl hly_3_8 hlk_27 (hh_52.at 0 rfl) dX1_part_130 ?_
            refine lv_bipush (v := 39) hx hb dX1_part_133 (by decide) ?_
            refine lv_iconst (v := 2) hx hb dX1_part_135 (by decide) ?_
            refine j7_iast hx hb hK hh_52 hB hB101 1 rfl (by decide) (by decide) rfl rfl rfl hg_early_53 (x := 39) ((by decide)) (by omega) (trivial) dX1_part_136 (fun H_54 locs_54 hh_54 => ?_)
            clear hh_52
            exact C137  _ _ (hh_54.sub (L1 := [(r0, 3, 3, .int length_6)]) [3] rfl (M1 := []) [] rfl (I1 := []) [] rfl) (trivial) _ (lv_sub hl [0, 1, 2, 3] rfl)
      refine lv_icmp_ge (tgt := 101) hx hb dX1_part_16 (by decide) (fun c_55 => ?_) (fun c_55 => ?_)
      · skip
        have c_55' : v3_7.toInt ≥ 40 := jb_ge (rfl) ((by decide)) c_55
        exact C101 v2_7 v3_7 _ _ hh_7 (trivial) _ (lv_sub hl [0, 1, 2, 3] rfl)
      · skip
        have c_55' : v3_7.toInt < 40 := jb_ge_n (rfl) ((by decide)) c_55
        refine lv_iload_n hx hb dX1_part_19 rfl (lv_at hl 2 rfl) ?_
        refine lv_aload_n hx hb dX1_part_20 rfl (lv_at hl 0 rfl) ?_
        refine j7_read hx hb hown hK (C := RX1) (T := TX1) (N := 17) rfl hly_3_3 hlk_42 (hh_7.at 0 rfl) dX1_part_21 ?_
        refine lv_icmp_ge (tgt := 101) hx hb dX1_part_24 (by decide) (fun c_56 => ?_) (fun c_56 => ?_)
        · skip
          have c_56' : v2_7.toInt ≥ length_6.toInt := jb_ge (rfl) (rfl) c_56
          exact C101 v2_7 v3_7 _ _ hh_7 (trivial) _ (lv_sub hl [0, 1, 2, 3] rfl)
        · skip
          have c_56' : v2_7.toInt < length_6.toInt := jb_ge_n (rfl) (rfl) c_56
          refine lv_aload_n hx hb dX1_part_27 rfl (lv_at hl 0 rfl) ?_
          refine lv_iload_n hx hb dX1_part_28 rfl (lv_at hl 2 rfl) ?_
          refine va_calli (A0 := jA base) (H0 := s.heap) (va_runV (As := [.int v2_7]) (rest := []) ⟨hx, hb, hml, hown, hts⟩ (uX1_sentenceEnd l dC dI ca base B hB hAp hB3 hB101 G0 H_7 r0 v2_7 n0) (cwV 1 hts (jgV (jWr_36 _ (List.mem_of_getElem? (i := 15) rfl)) (jWr_36 _ (List.mem_of_getElem? (i := 16) rfl)) (jWr_36 _ (List.mem_of_getElem? (i := 17) rfl)) (jWr_2 _ (List.mem_of_getElem? (i := 21) rfl)) (jWr_36 _ (List.mem_of_getElem? (i := 18) rfl))) rfl rfl rfl (by decide +kernel) ⟨by rw [← hR]; exact Nat.le_of_ble_eq_true rfl, by rw [← hR]; exact Nat.le_of_ble_eq_true rfl⟩) ⟨fun a U g mk q => by obtain ⟨q0, q1, q2, qK, q10, q11, q12⟩ := q; exact ⟨q0, q1, q2, jG.calling g mk a qK, q10, q11, q12⟩, hh_7.recv (C := RX1) (T := TX1) (N := 17) hB3 rfl (by decide) hg_r0 hK, fun U hU hW => ⟨rfl, hU, hh_7.2.1, hG.step hW hU hh_7.1, hg_r0, jP.nil, by first | omega | (refine ⟨?_, ?_⟩ <;> (first | omega | rfl | assumption | decide | exact Or.inl rfl | exact Or.inr rfl | (simp only; omega)))⟩⟩ rfl rfl hl.1 rfl (lv_room (Nat.le_of_ble_eq_true rfl)) dX1_part_29 ⟨Nat.zero_le _, Nat.zero_le _⟩) hh_7.1 (fun q _ h => h) (fun q h => h) (fun r_58 u_57 t_57 H_57 locs_57 ht_57 hvm_57 hr_58 hb_57 hz_57 hk_57 hS_57 => ?_)
          rw [ht_57] at hb_57
          obtain ⟨hb_571, hb_572, hb_573, hb_574, hb_575⟩ := hb_57
          have hh_57 : jSt (dC, dI) B base G0 G0 EX1_part s.heap 0 0 [(r0, 3, 3, .int length_6)] [] [] H_57 locs_57 := ((hh_7.call hb_571 hb_572 hb_573 hb_574 hS_57 rfl (L1 := [(r0, 3, 3, .int length_6)]) [0] rfl rfl (M1 := []) [] rfl rfl (I1 := []) [] rfl rfl).more hb_575)
          clear hh_7 ht_57 hvm_57 hz_57 hk_57 hS_57 hb_571 hb_572 hb_573 hb_574 hb_575
          obtain ⟨hr_58_0, hr_58_1⟩ := hr_58
          refine lv_istore (lv' := [(4, .int r_58), (0, .ref r0), (1, .ref r1), (2, .int v2_7), (3, .int v3_7)]) hx hb dX1_part_32 hl (by decide) rfl (fun ls hl => ?_)
          refine lv_aload_n hx hb dX1_part_34 rfl (lv_at hl 1 rfl) ?_
          obtain ⟨v_59, hv_59, hh_60⟩ := hh_57.pin (C := RX1) (T := TX1) (N := 17) hB3 rfl (by decide) hg_r0 (i := 5) (by decide) rfl
          clear hh_57
          obtain ⟨starts_61, rfl, hg_starts_61⟩ := hv_59
          refine j7_read hx hb hown hK (C := RX1) (T := TX1) (N := 17) rfl hly_3_5 hlk_18 (hh_60.at 0 rfl) dX1_part_35 ?_
          refine lv_iload_n hx hb dX1_part_38 rfl (lv_at hl 4 rfl) ?_
          refine lv_iload_n hx hb dX1_part_39 rfl (lv_at hl 3 rfl) ?_
          refine j7_iast hx hb hK hh_60 hB hB171 1 rfl (by decide) (by decide) rfl rfl rfl hg_starts_61 (x := v3_7.toInt) (rfl) (by omega) (by first | omega | (refine ⟨?_, ?_⟩ <;> (first | omega | rfl | assumption | decide | exact Or.inl rfl | exact Or.inr rfl | (simp only; omega)))) dX1_part_40 (fun H_62 locs_62 hh_62 => ?_)
          clear hh_60
          refine lv_aload_n hx hb dX1_part_41 rfl (lv_at hl 1 rfl) ?_
          obtain ⟨v_63, hv_63, hh_64⟩ := hh_62.pin (C := RX1) (T := TX1) (N := 17) hB3 rfl (by decide) hg_r0 (i := 6) (by decide) rfl
          clear hh_62
          obtain ⟨ends_65, rfl, hg_ends_65⟩ := hv_63
          refine j7_read hx hb hown hK (C := RX1) (T := TX1) (N := 17) rfl hly_3_6 hlk_21 (hh_64.at 0 rfl) dX1_part_42 ?_
          refine lv_iload_n hx hb dX1_part_45 rfl (lv_at hl 4 rfl) ?_
          refine lv_iload hx hb dX1_part_46 (lv_at hl 0 rfl) ?_
          have C60 : ∀ (w0_66 : Int32) (H_66 : Heap) (locs_66 : List Loc), jSt (dC, dI) B base G0 G0 EX1_part s.heap 0 0 [(r0, 3, 6, .ref ends_65), (r0, 3, 5, .ref starts_61), (r0, 3, 3, .int length_6)] [] [] H_66 locs_66 → (0 ≤ w0_66.toInt ∧ w0_66.toInt ≤ 1500) → ∀ ls : Array Slot, lv_has ls 5 [(0, .ref r0), (1, .ref r1), (2, .int v2_7), (3, .int v3_7), (4, .int r_58)] → W p l e R s m ([.ref r0, .ref r1] : List Value).toArray below meth c H_66 locs_66 0 0 Q (F0 m 60 ls [.int w0_66, .int v3_7, .ref ends_65]) := by
            intro w0_66 H_66 locs_66 hh_66  hi_66 ls hl
            obtain ⟨hi_66_0, hi_66_1⟩ := hi_66
            refine j7_iast hx hb hK hh_66 hB hB172 1 rfl (by decide) (by decide) rfl rfl rfl hg_ends_65 (x := v3_7.toInt) (rfl) (by omega) (by first | omega | (refine ⟨?_, ?_⟩ <;> (first | omega | rfl | assumption | decide | exact Or.inl rfl | exact Or.inr rfl | (simp only; omega)))) dX1_part_60 (fun H_67 locs_67 hh_67 => ?_)
            clear hh_66
            refine lv_aload_n hx hb dX1_part_61 rfl (lv_at hl 0 rfl) ?_
            obtain ⟨v_68, hv_68, hh_69⟩ := hh_67.pin (C := RX1) (T := TX1) (N := 17) hB3 rfl (by decide) hg_r0 (i := 8) (by decide) rfl
            clear hh_67
            obtain ⟨early_70, rfl, hg_early_70⟩ := hv_68
            refine j7_read hx hb hown hK (C := RX1) (T := TX1) (N := 17) rfl hly_3_8 hlk_27 (hh_69.at 0 rfl) dX1_part_62 ?_
            refine lv_iload_n hx hb dX1_part_65 rfl (lv_at hl 3 rfl) ?_
            refine lv_iload hx hb dX1_part_66 (lv_at hl 4 rfl) ?_
            have C76 : ∀ (w0_71 : Int32) (H_71 : Heap) (locs_71 : List Loc), jSt (dC, dI) B base G0 G0 EX1_part s.heap 0 0 [(r0, 3, 8, .ref early_70), (r0, 3, 6, .ref ends_65), (r0, 3, 5, .ref starts_61), (r0, 3, 3, .int length_6)] [] [] H_71 locs_71 → (w0_71 = 0 ∨ w0_71 = 1) → (True) → ∀ ls : Array Slot, lv_has ls 5 [(0, .ref r0), (1, .ref r1), (2, .int v2_7), (3, .int v3_7), (4, .int r_58)] → W p l e R s m ([.ref r0, .ref r1] : List Value).toArray below meth c H_71 locs_71 0 0 Q (F0 m 76 ls [.int w0_71, .int v3_7, .ref early_70]) := by
              intro w0_71 H_71 locs_71 hh_71 hb_w0_71 hi_71 ls hl
              have hb_w0_71' := jb_01 hb_w0_71
              refine j7_iast hx hb hK hh_71 hB hB101 1 rfl (by decide) (by decide) rfl rfl rfl hg_early_70 (x := v3_7.toInt) (rfl) (by omega) (trivial) dX1_part_76 (fun H_72 locs_72 hh_72 => ?_)
              clear hh_71
              refine lv_aload_n hx hb dX1_part_77 rfl (lv_at hl 0 rfl) ?_
              refine lv_iload_n hx hb dX1_part_78 rfl (lv_at hl 3 rfl) ?_
              refine lv_iconst (v := 1) hx hb dX1_part_79 (by decide) ?_
              refine lv_iadd hx hb dX1_part_80 ?_
              refine lv_topi (fun z_73 ez_73 => ?_)
              have hz_73 : z_73.toInt = v3_7.toInt + 1 := by rw [ez_73]; exact jb_iadd2 (rfl) ((by decide)) (by omega)
              refine j7_put hx hb hown hK hh_72 hB hAp hB3 (C := RX1) (T := TX1) (N := 17) rfl (by decide) hg_r0 (i := 4) (by decide) hly_3_4 rfl hlk_69 rfl (ty := .int) (v := .int z_73) (by decide +kernel) rfl rfl (⟨_, rfl, by omega, by omega⟩) rfl (L1 := [(r0, 3, 8, .ref early_70), (r0, 3, 6, .ref ends_65), (r0, 3, 5, .ref starts_61), (r0, 3, 3, .int length_6)]) [0, 1, 2, 3] rfl rfl rfl dX1_part_81 (fun H_74 locs_74 hh_74 => ?_)
              clear hh_72
              refine lv_aload_n hx hb dX1_part_84 rfl (lv_at hl 0 rfl) ?_
              refine lv_aload_n hx hb dX1_part_85 rfl (lv_at hl 0 rfl) ?_
              refine j7_read hx hb hown hK (C := RX1) (T := TX1) (N := 17) rfl hly_3_6 hlk_21 (hh_74.at 2 rfl) dX1_part_86 ?_
              refine lv_iload_n hx hb dX1_part_89 rfl (lv_at hl 3 rfl) ?_
              refine j7_iald hx hb hK hh_74 hB172 1 rfl (by decide) hg_ends_65 (x := v3_7.toInt) (rfl) (by omega) dX1_part_90 (fun z_75 (hz_75 : 0 ≤ z_75.toInt ∧ z_75.toInt ≤ 1500) => ?_)
              refine va_calli (A0 := jA base) (H0 := s.heap) (va_runV (As := [.int z_75]) (rest := []) ⟨hx, hb, hml, hown, hts⟩ (uX1_sentenceBegin l dC dI ca base B hB hAp hB3 hB101 G0 H_74 r0 z_75 n0) (cwV 1 hts (jgV (jWr_36 _ (List.mem_of_getElem? (i := 6) rfl)) (jWr_36 _ (List.mem_of_getElem? (i := 7) rfl)) (jWr_36 _ (List.mem_of_getElem? (i := 8) rfl)) (jWr_2 _ (List.mem_of_getElem? (i := 21) rfl)) (jWr_36 _ (List.mem_of_getElem? (i := 9) rfl))) rfl rfl rfl (by decide +kernel) ⟨by rw [← hR]; exact Nat.le_of_ble_eq_true rfl, by rw [← hR]; exact Nat.le_of_ble_eq_true rfl⟩) ⟨fun a U g mk q => by obtain ⟨q0, q1, q2, qK, q10, q11, q12⟩ := q; exact ⟨q0, q1, q2, jG.calling g mk a qK, q10, q11, q12⟩, hh_74.recv (C := RX1) (T := TX1) (N := 17) hB3 rfl (by decide) hg_r0 hK, fun U hU hW => ⟨rfl, hU, hh_74.2.1, hG.step hW hU hh_74.1, hg_r0, jP.nil, by first | omega | (refine ⟨?_, ?_⟩ <;> (first | omega | rfl | assumption | decide | exact Or.inl rfl | exact Or.inr rfl | (simp only; omega)))⟩⟩ rfl rfl hl.1 rfl (lv_room (Nat.le_of_ble_eq_true rfl)) dX1_part_91 ⟨Nat.zero_le _, Nat.zero_le _⟩) hh_74.1 (fun q _ h => h) (fun q h => h) (fun r_77 u_76 t_76 H_76 locs_76 ht_76 hvm_76 hr_77 hb_76 hz_76 hk_76 hS_76 => ?_)
              rw [ht_76] at hb_76
              obtain ⟨hb_761, hb_762, hb_763, hb_764, hb_765⟩ := hb_76
              have hh_76 : jSt (dC, dI) B base G0 G0 EX1_part s.heap 0 0 [(r0, 3, 4, .int z_73), (r0, 3, 8, .ref early_70), (r0, 3, 6, .ref ends_65), (r0, 3, 5, .ref starts_61), (r0, 3, 3, .int length_6)] [] [] H_76 locs_76 := ((hh_74.call hb_761 hb_762 hb_763 hb_764 hS_76 rfl (L1 := [(r0, 3, 4, .int z_73), (r0, 3, 8, .ref early_70), (r0, 3, 6, .ref ends_65), (r0, 3, 5, .ref starts_61), (r0, 3, 3, .int length_6)]) [0, 1, 2, 3, 4] rfl rfl (M1 := []) [] rfl rfl (I1 := []) [] rfl rfl).more hb_765)
              clear hh_74 ht_76 hvm_76 hz_76 hk_76 hS_76 hb_761 hb_762 hb_763 hb_764 hb_765
              obtain ⟨hr_77_0, hr_77_1⟩ := hr_77
              refine lv_istore_n (lv' := [(2, .int r_77), (0, .ref r0), (1, .ref r1), (3, .int v3_7), (4, .int r_58)]) hx hb dX1_part_94 rfl hl (by decide) rfl (fun ls hl => ?_)
              obtain ⟨z_78, ez_78⟩ : ∃ y : Int32, y = v3_7 + 1 := ⟨_, rfl⟩
              refine lv_iinc (v := z_78) (lv' := [(3, .int z_78), (2, .int r_77), (0, .ref r0), (1, .ref r1), (4, .int r_58)]) hx hb dX1_part_95 hl (k := 3) rfl (by rw [ez_78]; rfl) (by decide) rfl (fun ls hl => ?_)
              have hz_78 : z_78.toInt = v3_7.toInt + 1 := by rw [ez_78]; exact jb_iadd2 (rfl) (by decide) (by omega)
              refine lv_goto (tgt := 13) hx hb dX1_part_98 (by decide) ?_
              exact L13 r_77 z_78 _ _ (hh_76.sub (L1 := [(r0, 3, 3, .int length_6)]) [4] rfl (M1 := []) [] rfl (I1 := []) [] rfl) (by first | omega | (refine ⟨?_, ?_, ?_, ?_⟩ <;> (first | omega | rfl | assumption | decide | exact Or.inl rfl | exact Or.inr rfl | (simp only; omega)))) (by omega) _ (lv_sub hl [2, 3, 1, 0] rfl)
            refine lv_if_ge (tgt := 75) hx hb dX1_part_68 (by decide) (fun c_79 => ?_) (fun c_79 => ?_)
            · skip
              have c_79' : r_58.toInt ≥ 0 := jb_ge (rfl) ((by decide)) c_79
              refine lv_iconst (v := 0) hx hb dX1_part_75 (by decide) ?_
              exact C76 0 _ _ hh_69 (Or.inl rfl) (trivial) _ (lv_sub hl [0, 1, 2, 3, 4] rfl)
            · skip
              have c_79' : r_58.toInt < 0 := jb_ge_n (rfl) ((by decide)) c_79
              refine lv_iconst (v := 1) hx hb dX1_part_71 (by decide) ?_
              refine lv_goto (tgt := 76) hx hb dX1_part_72 (by decide) ?_
              exact C76 1 _ _ hh_69 (Or.inr rfl) (trivial) _ (lv_sub hl [0, 1, 2, 3, 4] rfl)
          refine lv_if_ge (tgt := 58) hx hb dX1_part_48 (by decide) (fun c_80 => ?_) (fun c_80 => ?_)
          · skip
            have c_80' : r_58.toInt ≥ 0 := jb_ge (rfl) ((by decide)) c_80
            refine lv_iload hx hb dX1_part_58 (lv_at hl 0 rfl) ?_
            exact C60 r_58 _ _ hh_64 (by first | omega | (refine ⟨?_, ?_⟩ <;> (first | omega | rfl | assumption | decide | exact Or.inl rfl | exact Or.inr rfl | (simp only; omega)))) _ (lv_sub hl [1, 2, 3, 4, 0] rfl)
          · skip
            have c_80' : r_58.toInt < 0 := jb_ge_n (rfl) ((by decide)) c_80
            refine lv_aload_n hx hb dX1_part_51 rfl (lv_at hl 1 rfl) ?_
            refine j7_read hx hb hown hK (C := RX1) (T := TX1) (N := 17) rfl hly_3_3 hlk_42 (hh_64.at 2 rfl) dX1_part_52 ?_
            refine lv_goto (tgt := 60) hx hb dX1_part_55 (by decide) ?_
            exact C60 length_6 _ _ hh_64 (by first | omega | (refine ⟨?_, ?_⟩ <;> (first | omega | rfl | assumption | decide | exact Or.inl rfl | exact Or.inr rfl | (simp only; omega)))) _ (lv_sub hl [1, 2, 3, 4, 0] rfl)
  exact L13 (40 - (0 : Int32).toInt : Int).toNat.succ r_3 0 _ _ (hh_5.sub (L1 := [(r0, 3, 3, .int length_6)]) [0] rfl (M1 := []) [] rfl (I1 := []) [] rfl) (by first | omega | (refine ⟨?_, ?_, ?_, ?_⟩ <;> (first | omega | rfl | assumption | decide | exact Or.inl rfl | exact Or.inr rfl | (simp only; omega)))) (by omega) _ (lv_sub hl [2, 3, 1, 0] rfl)
set_option maxHeartbeats 4000000 in
set_option maxRecDepth 20000 in
theorem uX1_decode (l : Launch) (dC : Nat → ClassId) (dI : Nat → Nat → Nat) (ca : Nat → ClassId) (base : Nat) (B : jF) (hB : jBok B) (hAp : jAp (dC, dI)) (hB3 : ∀ n G a H, B 3 n G a H ↔ jOb (dC, dI) 3 17 (F3 n G) a H) (hB100 : ∀ n G a H, B 100 n G a H ↔ jAr (dC, dI) (ca 0) (fun j z => True) n a H) (hB101 : ∀ n G a H, B 101 n G a H ↔ jAr (dC, dI) (ca 1) (fun j z => True) n a H) (G0 : jT) (H0 : Heap) (r0 : Nat) (r1 : Nat) (a2 : Int32) (n0 : Nat) (n1 : Nat) : Met l yX1_decode (jw yX1_decode cX1_decode 7 (some .boolean)) ({ frames := 1, cells := 0, slots := 0, locals := 27 }) (va_Pc [.ref r0, .ref r1, .int a2] (fun U => U.heap = H0 ∧ jX B base G0 [] H0 ∧ jG dC dI ca base U ∧ G0 r0 = some (3, n0) ∧ G0 r1 = some (100, n1) ∧ jP (dC, dI) G0 H0 [] ∧ n1 < 1000000 ∧ a2.toInt ≤ 1000000)) (va_Qi (S := Unit) (fun r u => (r = 0 ∨ r = 1) ∧ (True)) (fun u t => jRt (dC, dI) B base G0 EX1_decode H0 [] t.heap) (jA base)) 0 0 (jA base) := by
  refine Met.ofW (cc := cX1_decode) (maxL := 7) (ret := (some .boolean)) (by decide) rfl ?_
  intro p e s m args below meth c s₁ Bd hml hv
  obtain ⟨rfl, hH0, hX, hG, hg_r0, hg_r1, hP0, hp0, hp1⟩ := hv
  have hK := hG.1
  have hx := Bd.exec
  have hb := Bd.bytes
  have hr := Bd.returns
  have hts := atoms_spec (ws := (jw yX1_decode cX1_decode 7 (some .boolean))) Bd.pre
  have htw : ∀ w ∈ jWl, w.before _ s = true := fun w h => hts w (List.mem_cons_of_mem _ h)
  have hown : s.vm.findClass RX1 = some m.cls := findClass_of_methodNamed Bd.named
  have hlocks := Bd.notSynchronized
  obtain ⟨Q, hQ⟩ : ∃ Q, Q = MQ below (va_Qi (S := Unit) (fun r u => (r = 0 ∨ r = 1) ∧ (True)) (fun u t => jRt (dC, dI) B base G0 EX1_decode H0 [] t.heap) (jA base)) ([.ref r0, .ref r1, .int a2] : List Value).toArray s 0 0 (jA base) := ⟨_, rfl⟩
  rw [← hQ]
  have hl := lv_entry ([.ref r0, .ref r1, .int a2]) (n := 7) (Nat.le_of_ble_eq_true rfl)
  rw [lg_entry_eq]
  generalize (lg_sl ([.ref r0, .ref r1, .int a2]) ++ List.replicate (7 - (lg_sl ([.ref r0, .ref r1, .int a2])).length) Slot.unset).toArray = ls at hl ⊢
  have hl : lv_has ls 7 [(0, .ref r0), (1, .ref r1), (2, .int a2)] := hl
  generalize hR : (headSpec (jw yX1_decode cX1_decode 7 (some .boolean)) ({ frames := 1, cells := 0, slots := 0, locals := 27 })).room = R
  subst hH0
  have hh : jSt (dC, dI) B base G0 G0 EX1_decode s.heap 0 0 [] [] [] s.heap [] := jSt.start hX hP0 jMc.nil jIs.nil
  clear hX hP0
  have hk0 : (0 : Int32).toInt = 0 := by decide
  have hk1 : (1 : Int32).toInt = 1 := by decide
  have hk2 : (2 : Int32).toInt = 2 := by decide
  have hk10 : (10 : Int32).toInt = 10 := by decide
  have hk1023 : (1023 : Int32).toInt = 1023 := by decide
  have hk1500 : (1500 : Int32).toInt = 1500 := by decide
  have hk55296 : (55296 : Int32).toInt = 55296 := by decide
  have hk56320 : (56320 : Int32).toInt = 56320 := by decide
  have hk65533 : (65533 : Int32).toInt = 65533 := by decide
  have hk65536 : (65536 : Int32).toInt = 65536 := by decide
  have hly_3_2 := htw (u_lay RX1 TX1 2) (jWc_wsX10 _ (u_in_lay (by decide)))
  have hly_3_3 := htw (u_lay RX1 TX1 3) (jWc_wsX10 _ (u_in_lay (by decide)))
  have hlk_42 := (htw (.fieldLink RX1 42 "ProofServer$Document" "length" "I") (jWr_29 _ (List.mem_of_getElem? (i := 5) rfl)))
  have hcs_65 := htw (.constant RX1 65 65536) (jWr_93 _ (List.mem_of_getElem? (i := 20) rfl))
  have hlk_15 := (htw (.fieldLink RX1 15 "ProofServer$Document" "text" "[I") (jWr_10 _ (List.mem_of_getElem? (i := 6) rfl)))
  have hcs_66 := htw (.constant RX1 66 55296) (jWr_93 _ (List.mem_of_getElem? (i := 21) rfl))
  have hcs_67 := htw (.constant RX1 67 56320) (jWr_93 _ (List.mem_of_getElem? (i := 22) rfl))
  have hcs_68 := htw (.constant RX1 68 65533) (jWr_93 _ (List.mem_of_getElem? (i := 23) rfl))
  have hrg_a2 := jb_rng a2
  refine lv_aload_n hx hb dX1_decode_0 rfl (lv_at hl 0 rfl) ?_
  refine lv_iconst (v := 0) hx hb dX1_decode_1 (by decide) ?_
  refine j7_put hx hb hown hK hh hB hAp hB3 (C := RX1) (T := TX1) (N := 17) rfl (by decide) hg_r0 (i := 3) (by decide) hly_3_3 rfl hlk_42 rfl (ty := .int) (v := .int 0) (by decide +kernel) rfl rfl (⟨_, rfl, by omega, by omega⟩) rfl (L1 := []) [] rfl rfl rfl dX1_decode_2 (fun H_1 locs_1 hh_1 => ?_)
  clear hh
  refine lv_iconst (v := 0) hx hb dX1_decode_5 (by decide) ?_
  refine lv_istore_n (lv' := [(3, .int 0), (0, .ref r0), (1, .ref r1), (2, .int a2)]) hx hb dX1_decode_6 rfl hl (by decide) rfl (fun ls hl => ?_)
  refine lv_iconst (v := 0) hx hb dX1_decode_7 (by decide) ?_
  refine lv_istore (lv' := [(4, .int 0), (3, .int 0), (0, .ref r0), (1, .ref r1), (2, .int a2)]) hx hb dX1_decode_8 hl (by decide) rfl (fun ls hl => ?_)
  have L10 : ∀ (N : Nat) (v3_2 : Int32) (v4_2 : Int32) (wl_2 : Int32) (H_2 : Heap) (locs_2 : List Loc), jSt (dC, dI) B base G0 G0 EX1_decode s.heap 0 0 [(r0, 3, 3, .int wl_2)] [] [] H_2 locs_2 → (0 ≤ v4_2.toInt ∧ 0 ≤ v3_2.toInt ∧ v3_2.toInt ≤ 1000004 ∧ 0 ≤ wl_2.toInt ∧ wl_2.toInt ≤ 1500) → (((a2.toInt - v4_2.toInt).toNat : Int) : Int) < N → ∀ ls : Array Slot, lv_has ls 7 [(0, .ref r0), (1, .ref r1), (2, .int a2), (3, .int v3_2), (4, .int v4_2)] → W p l e R s m ([.ref r0, .ref r1, .int a2] : List Value).toArray below meth c H_2 locs_2 0 0 Q (F0 m 10 ls []) := by
    intro N
    induction N with
    | zero => intro v3_2 v4_2 wl_2 H_2 locs_2 hh_2  hi_2 hm; exact absurd hm (by omega)
    | succ N L10 =>
      intro v3_2 v4_2 wl_2 H_2 locs_2 hh_2  hi_2 hm_2 ls hl
      obtain ⟨hi_2_0, hi_2_1, hi_2_2, hi_2_3, hi_2_4⟩ := hi_2
      refine lv_iload hx hb dX1_decode_10 (lv_at hl 4 rfl) ?_
      refine lv_iload_n hx hb dX1_decode_12 rfl (lv_at hl 2 rfl) ?_
      refine lv_icmp_ge (tgt := 165) hx hb dX1_decode_13 (by decide) (fun c_3 => ?_) (fun c_3 => ?_)
      · skip
        have c_3' : v4_2.toInt ≥ a2.toInt := jb_ge (rfl) (rfl) c_3
        refine lv_iconst (v := 1) hx hb dX1_decode_165 (by decide) ?_
        rw [hQ]
        exact W.zret (v := 1) hx hb hr (jb_nz (Or.inr rfl)) (fun t ht hW => ⟨⟨1, (), rfl, ⟨(Or.inr rfl), trivial⟩, hh_2.rt (M1 := []) [] rfl ht⟩, by rw [ht]; try exact hh_2.1.1, fun q h9 hq => by rw [ht]; try exact hh_2.1.2.1 q h9 hq⟩) hh_2.1.2.2 dX1_decode_166
      · skip
        have c_3' : v4_2.toInt < a2.toInt := jb_ge_n (rfl) (rfl) c_3
        refine lv_iload_n hx hb dX1_decode_16 rfl (lv_at hl 3 rfl) ?_
        refine lv_iload_n hx hb dX1_decode_17 rfl (lv_at hl 2 rfl) ?_
        refine lv_icmp_ge (tgt := 165) hx hb dX1_decode_18 (by decide) (fun c_4 => ?_) (fun c_4 => ?_)
        · skip
          have c_4' : v3_2.toInt ≥ a2.toInt := jb_ge (rfl) (rfl) c_4
          refine lv_iconst (v := 1) hx hb dX1_decode_165 (by decide) ?_
          rw [hQ]
          exact W.zret (v := 1) hx hb hr (jb_nz (Or.inr rfl)) (fun t ht hW => ⟨⟨1, (), rfl, ⟨(Or.inr rfl), trivial⟩, hh_2.rt (M1 := []) [] rfl ht⟩, by rw [ht]; try exact hh_2.1.1, fun q h9 hq => by rw [ht]; try exact hh_2.1.2.1 q h9 hq⟩) hh_2.1.2.2 dX1_decode_166
        · skip
          have c_4' : v3_2.toInt < a2.toInt := jb_ge_n (rfl) (rfl) c_4
          refine lv_aload_n hx hb dX1_decode_21 rfl (lv_at hl 1 rfl) ?_
          refine lv_iload_n hx hb dX1_decode_22 rfl (lv_at hl 3 rfl) ?_
          refine lv_iload_n hx hb dX1_decode_23 rfl (lv_at hl 2 rfl) ?_
          refine va_calli (A0 := jA base) (H0 := s.heap) (va_runS (As := [.ref r1, .int v3_2, .int a2]) (rest := []) ⟨hx, hb, hml, hown, hts⟩ (uX0_decoded l dC dI ca base B hB hAp hB100 G0 H_2 r1 v3_2 a2 n1) (va_cwS 3 hts (jgS (jWr_94 _ (List.mem_of_getElem? (i := 0) rfl)) (jWr_20 _ (List.mem_of_getElem? (i := 13) rfl)) (jWr_1 _ (List.mem_of_getElem? (i := 14) rfl)) (jWr_20 _ (List.mem_of_getElem? (i := 14) rfl))) rfl rfl rfl (by decide +kernel) ⟨by rw [← hR]; exact Nat.le_of_ble_eq_true rfl, by rw [← hR]; exact Nat.le_of_ble_eq_true rfl⟩) ⟨fun a U g mk q => by obtain ⟨q0, q1, q2, qK, q10, q11, q12⟩ := q; exact ⟨q0, q1, q2, jG.calling g mk a qK, q10, q11, q12⟩, fun U hU hW => ⟨rfl, hU, hh_2.2.1, hG.step hW hU hh_2.1, hg_r1, jP.nil, by first | omega | (refine ⟨?_, ?_⟩ <;> (first | omega | rfl | assumption | decide | exact Or.inl rfl | exact Or.inr rfl | (simp only; omega)))⟩⟩ rfl rfl hl.1 rfl (lv_room (Nat.le_of_ble_eq_true rfl)) dX1_decode_24 ⟨Nat.zero_le _, Nat.zero_le _⟩) hh_2.1 (fun q _ h => h) (fun q h => h) (fun r_6 u_5 t_5 H_5 locs_5 ht_5 hvm_5 hr_6 hb_5 hz_5 hk_5 hS_5 => ?_)
          rw [ht_5] at hb_5
          obtain ⟨hb_51, hb_52, hb_53, hb_54, hb_55⟩ := hb_5
          have hh_5 : jSt (dC, dI) B base G0 G0 EX1_decode s.heap 0 0 [(r0, 3, 3, .int wl_2)] [] [] H_5 locs_5 := ((hh_2.call hb_51 hb_52 hb_53 hb_54 hS_5 rfl (L1 := [(r0, 3, 3, .int wl_2)]) [0] rfl rfl (M1 := []) [] rfl rfl (I1 := []) [] rfl rfl).more hb_55)
          clear hh_2 ht_5 hvm_5 hz_5 hk_5 hS_5 hb_51 hb_52 hb_53 hb_54 hb_55
          refine lv_istore (lv' := [(5, .int r_6), (0, .ref r0), (1, .ref r1), (2, .int a2), (3, .int v3_2), (4, .int v4_2)]) hx hb dX1_decode_27 hl (by decide) rfl (fun ls hl => ?_)
          refine lv_iload_n hx hb dX1_decode_29 rfl (lv_at hl 4 rfl) ?_
          refine lv_iload hx hb dX1_decode_30 (lv_at hl 0 rfl) ?_
          have C44 : ∀ (w0_7 : Int32) (H_7 : Heap) (locs_7 : List Loc), jSt (dC, dI) B base G0 G0 EX1_decode s.heap 0 0 [(r0, 3, 3, .int wl_2)] [] [] H_7 locs_7 → (1 ≤ w0_7.toInt ∧ w0_7.toInt ≤ 4) → ∀ ls : Array Slot, lv_has ls 7 [(0, .ref r0), (1, .ref r1), (2, .int a2), (3, .int v3_2), (4, .int v4_2), (5, .int r_6)] → W p l e R s m ([.ref r0, .ref r1, .int a2] : List Value).toArray below meth c H_7 locs_7 0 0 Q (F0 m 44 ls [.int w0_7, .int v3_2]) := by
            intro w0_7 H_7 locs_7 hh_7  hi_7 ls hl
            obtain ⟨hi_7_0, hi_7_1⟩ := hi_7
            refine lv_iadd hx hb dX1_decode_44 ?_
            refine lv_topi (fun z_8 ez_8 => ?_)
            have hz_8 : z_8.toInt = v3_2.toInt + w0_7.toInt := by rw [ez_8]; exact jb_iadd2 (rfl) (rfl) (by omega)
            refine lv_istore_n (lv' := [(3, .int z_8), (0, .ref r0), (1, .ref r1), (2, .int a2), (4, .int v4_2), (5, .int r_6)]) hx hb dX1_decode_45 rfl hl (by decide) rfl (fun ls hl => ?_)
            refine lv_iload hx hb dX1_decode_46 (lv_at hl 5 rfl) ?_
            refine lv_ldc hx hb hown hcs_65 dX1_decode_48 ?_
            have C58 : ∀ (w0_9 : Int32) (H_9 : Heap) (locs_9 : List Loc), jSt (dC, dI) B base G0 G0 EX1_decode s.heap 0 0 [(r0, 3, 3, .int wl_2)] [] [] H_9 locs_9 → (1 ≤ w0_9.toInt ∧ w0_9.toInt ≤ 2) → ∀ ls : Array Slot, lv_has ls 7 [(0, .ref r0), (1, .ref r1), (2, .int a2), (3, .int z_8), (4, .int v4_2), (5, .int r_6)] → W p l e R s m ([.ref r0, .ref r1, .int a2] : List Value).toArray below meth c H_9 locs_9 0 0 Q (F0 m 58 ls [.int w0_9]) := by
              intro w0_9 H_9 locs_9 hh_9  hi_9 ls hl
              obtain ⟨hi_9_0, hi_9_1⟩ := hi_9
              refine lv_istore (lv' := [(6, .int w0_9), (0, .ref r0), (1, .ref r1), (2, .int a2), (3, .int z_8), (4, .int v4_2), (5, .int r_6)]) hx hb dX1_decode_58 hl (by decide) rfl (fun ls hl => ?_)
              refine lv_aload_n hx hb dX1_decode_60 rfl (lv_at hl 1 rfl) ?_
              refine j7_read hx hb hown hK (C := RX1) (T := TX1) (N := 17) rfl hly_3_3 hlk_42 (hh_9.at 0 rfl) dX1_decode_61 ?_
              refine lv_iload hx hb dX1_decode_64 (lv_at hl 0 rfl) ?_
              refine lv_iadd hx hb dX1_decode_66 ?_
              refine lv_topi (fun z_10 ez_10 => ?_)
              have hz_10 : z_10.toInt = wl_2.toInt + w0_9.toInt := by rw [ez_10]; exact jb_iadd2 (rfl) (rfl) (by omega)
              refine lv_sipush (v := 1500) hx hb dX1_decode_67 (by decide) ?_
              refine lv_icmp_le (tgt := 75) hx hb dX1_decode_70 (by decide) (fun c_11 => ?_) (fun c_11 => ?_)
              · skip
                have c_11' : z_10.toInt ≤ 1500 := jb_le (rfl) ((by decide)) c_11
                refine lv_iload hx hb dX1_decode_75 (lv_at hl 0 rfl) ?_
                refine lv_iconst (v := 2) hx hb dX1_decode_77 (by decide) ?_
                refine lv_icmp_ne (tgt := 127) hx hb dX1_decode_78 (by decide) (fun c_12 => ?_) (fun c_12 => ?_)
                · skip
                  have c_12' : w0_9.toInt ≠ 2 := jb_ne (rfl) ((by decide)) c_12
                  refine lv_aload_n hx hb dX1_decode_127 rfl (lv_at hl 1 rfl) ?_
                  obtain ⟨v_13, hv_13, hh_14⟩ := hh_9.pin (C := RX1) (T := TX1) (N := 17) hB3 rfl (by decide) hg_r0 (i := 2) (by decide) rfl
                  clear hh_9
                  obtain ⟨text_15, rfl, hg_text_15⟩ := hv_13
                  refine j7_read hx hb hown hK (C := RX1) (T := TX1) (N := 17) rfl hly_3_2 hlk_15 (hh_14.at 0 rfl) dX1_decode_128 ?_
                  refine lv_aload_n hx hb dX1_decode_131 rfl (lv_at hl 1 rfl) ?_
                  refine j7_read hx hb hown hK (C := RX1) (T := TX1) (N := 17) rfl hly_3_3 hlk_42 (hh_14.at 1 rfl) dX1_decode_132 ?_
                  refine lv_iload hx hb dX1_decode_135 (lv_at hl 6 rfl) ?_
                  refine lv_if_ge (tgt := 145) hx hb dX1_decode_137 (by decide) (fun c_16 => ?_) (fun c_16 => ?_)
                  · skip
                    have c_16' : r_6.toInt ≥ 0 := jb_ge (rfl) ((by decide)) c_16
                    refine lv_iload hx hb dX1_decode_145 (lv_at hl 6 rfl) ?_
                    refine j7_iast hx hb hK hh_14 hB hB101 1 rfl (by decide) (by decide) rfl rfl rfl hg_text_15 (x := wl_2.toInt) (rfl) (by omega) (trivial) dX1_decode_147 (fun H_17 locs_17 hh_17 => ?_)
                    clear hh_14
                    refine lv_aload_n hx hb dX1_decode_148 rfl (lv_at hl 1 rfl) ?_
                    refine lv_dup hx hb dX1_decode_149 rfl ?_
                    refine j7_read hx hb hown hK (C := RX1) (T := TX1) (N := 17) rfl hly_3_3 hlk_42 (hh_17.at 1 rfl) dX1_decode_150 ?_
                    refine lv_iload hx hb dX1_decode_153 (lv_at hl 0 rfl) ?_
                    refine lv_iadd hx hb dX1_decode_155 ?_
                    refine lv_topi (fun z_18 ez_18 => ?_)
                    have hz_18 : z_18.toInt = wl_2.toInt + w0_9.toInt := by rw [ez_18]; exact jb_iadd2 (rfl) (rfl) (by omega)
                    refine j7_put hx hb hown hK hh_17 hB hAp hB3 (C := RX1) (T := TX1) (N := 17) rfl (by decide) hg_r0 (i := 3) (by decide) hly_3_3 rfl hlk_42 rfl (ty := .int) (v := .int z_18) (by decide +kernel) rfl rfl (⟨_, rfl, by omega, by omega⟩) rfl (L1 := [(r0, 3, 2, .ref text_15)]) [0] rfl rfl rfl dX1_decode_156 (fun H_19 locs_19 hh_19 => ?_)
                    clear hh_17
                    obtain ⟨z_20, ez_20⟩ : ∃ y : Int32, y = v4_2 + 1 := ⟨_, rfl⟩
                    refine lv_iinc (v := z_20) (lv' := [(4, .int z_20), (6, .int w0_9), (0, .ref r0), (1, .ref r1), (2, .int a2), (3, .int z_8), (5, .int r_6)]) hx hb dX1_decode_159 hl (k := 5) rfl (by rw [ez_20]; rfl) (by decide) rfl (fun ls hl => ?_)
                    have hz_20 : z_20.toInt = v4_2.toInt + 1 := by rw [ez_20]; exact jb_iadd2 (rfl) (by decide) (by omega)
                    refine lv_goto (tgt := 10) hx hb dX1_decode_162 (by decide) ?_
                    exact L10 z_8 z_20 z_18 _ _ (hh_19.sub (L1 := [(r0, 3, 3, .int z_18)]) [0] rfl (M1 := []) [] rfl (I1 := []) [] rfl) (by first | omega | (refine ⟨?_, ?_, ?_, ?_, ?_⟩ <;> (first | omega | rfl | assumption | decide | exact Or.inl rfl | exact Or.inr rfl | (simp only; omega)))) (by omega) _ (lv_sub hl [2, 3, 4, 5, 0] rfl)
                  · skip
                    have c_16' : r_6.toInt < 0 := jb_ge_n (rfl) ((by decide)) c_16
                    refine lv_ldc hx hb hown hcs_68 dX1_decode_140 ?_
                    refine lv_goto (tgt := 147) hx hb dX1_decode_142 (by decide) ?_
                    refine j7_iast hx hb hK hh_14 hB hB101 1 rfl (by decide) (by decide) rfl rfl rfl hg_text_15 (x := wl_2.toInt) (rfl) (by omega) (trivial) dX1_decode_147 (fun H_21 locs_21 hh_21 => ?_)
                    clear hh_14
                    refine lv_aload_n hx hb dX1_decode_148 rfl (lv_at hl 1 rfl) ?_
                    refine lv_dup hx hb dX1_decode_149 rfl ?_
                    refine j7_read hx hb hown hK (C := RX1) (T := TX1) (N := 17) rfl hly_3_3 hlk_42 (hh_21.at 1 rfl) dX1_decode_150 ?_
                    refine lv_iload hx hb dX1_decode_153 (lv_at hl 0 rfl) ?_
                    refine lv_iadd hx hb dX1_decode_155 ?_
                    refine lv_topi (fun z_22 ez_22 => ?_)
                    have hz_22 : z_22.toInt = wl_2.toInt + w0_9.toInt := by rw [ez_22]; exact jb_iadd2 (rfl) (rfl) (by omega)
                    refine j7_put hx hb hown hK hh_21 hB hAp hB3 (C := RX1) (T := TX1) (N := 17) rfl (by decide) hg_r0 (i := 3) (by decide) hly_3_3 rfl hlk_42 rfl (ty := .int) (v := .int z_22) (by decide +kernel) rfl rfl (⟨_, rfl, by omega, by omega⟩) rfl (L1 := [(r0, 3, 2, .ref text_15)]) [0] rfl rfl rfl dX1_decode_156 (fun H_23 locs_23 hh_23 => ?_)
                    clear hh_21
                    obtain ⟨z_24, ez_24⟩ : ∃ y : Int32, y = v4_2 + 1 := ⟨_, rfl⟩
                    refine lv_iinc (v := z_24) (lv' := [(4, .int z_24), (6, .int w0_9), (0, .ref r0), (1, .ref r1), (2, .int a2), (3, .int z_8), (5, .int r_6)]) hx hb dX1_decode_159 hl (k := 5) rfl (by rw [ez_24]; rfl) (by decide) rfl (fun ls hl => ?_)
                    have hz_24 : z_24.toInt = v4_2.toInt + 1 := by rw [ez_24]; exact jb_iadd2 (rfl) (by decide) (by omega)
                    refine lv_goto (tgt := 10) hx hb dX1_decode_162 (by decide) ?_
                    exact L10 z_8 z_24 z_22 _ _ (hh_23.sub (L1 := [(r0, 3, 3, .int z_22)]) [0] rfl (M1 := []) [] rfl (I1 := []) [] rfl) (by first | omega | (refine ⟨?_, ?_, ?_, ?_, ?_⟩ <;> (first | omega | rfl | assumption | decide | exact Or.inl rfl | exact Or.inr rfl | (simp only; omega)))) (by omega) _ (lv_sub hl [2, 3, 4, 5, 0] rfl)
                · skip
                  have c_12' : w0_9.toInt = 2 := jb_ne_n (rfl) ((by decide)) c_12
                  refine lv_aload_n hx hb dX1_decode_81 rfl (lv_at hl 1 rfl) ?_
                  obtain ⟨v_25, hv_25, hh_26⟩ := hh_9.pin (C := RX1) (T := TX1) (N := 17) hB3 rfl (by decide) hg_r0 (i := 2) (by decide) rfl
                  clear hh_9
                  obtain ⟨text_27, rfl, hg_text_27⟩ := hv_25
                  refine j7_read hx hb hown hK (C := RX1) (T := TX1) (N := 17) rfl hly_3_2 hlk_15 (hh_26.at 0 rfl) dX1_decode_82 ?_
                  refine lv_aload_n hx hb dX1_decode_85 rfl (lv_at hl 1 rfl) ?_
                  refine j7_read hx hb hown hK (C := RX1) (T := TX1) (N := 17) rfl hly_3_3 hlk_42 (hh_26.at 1 rfl) dX1_decode_86 ?_
                  refine lv_ldc hx hb hown hcs_66 dX1_decode_89 ?_
                  refine lv_iload hx hb dX1_decode_91 (lv_at hl 6 rfl) ?_
                  refine lv_ldc hx hb hown hcs_65 dX1_decode_93 ?_
                  refine lv_isub hx hb dX1_decode_95 ?_
                  refine lv_topi (fun z_28 ez_28 => ?_)
                  refine lv_bipush (v := 10) hx hb dX1_decode_96 (by decide) ?_
                  refine lv_ishr hx hb dX1_decode_98 ?_
                  refine lv_topi (fun z_29 ez_29 => ?_)
                  have hz_29 : z_29.toInt = z_28.toInt / 2 ^ 10 := by rw [ez_29]; exact jb_ishr 10 (rfl) (by decide)
                  refine lv_iadd hx hb dX1_decode_99 ?_
                  refine lv_topi (fun z_30 ez_30 => ?_)
                  refine j7_iast hx hb hK hh_26 hB hB101 1 rfl (by decide) (by decide) rfl rfl rfl hg_text_27 (x := wl_2.toInt) (rfl) (by omega) (trivial) dX1_decode_100 (fun H_31 locs_31 hh_31 => ?_)
                  clear hh_26
                  refine lv_aload_n hx hb dX1_decode_101 rfl (lv_at hl 1 rfl) ?_
                  refine j7_read hx hb hown hK (C := RX1) (T := TX1) (N := 17) rfl hly_3_2 hlk_15 (hh_31.at 0 rfl) dX1_decode_102 ?_
                  refine lv_aload_n hx hb dX1_decode_105 rfl (lv_at hl 1 rfl) ?_
                  refine j7_read hx hb hown hK (C := RX1) (T := TX1) (N := 17) rfl hly_3_3 hlk_42 (hh_31.at 1 rfl) dX1_decode_106 ?_
                  refine lv_iconst (v := 1) hx hb dX1_decode_109 (by decide) ?_
                  refine lv_iadd hx hb dX1_decode_110 ?_
                  refine lv_topi (fun z_32 ez_32 => ?_)
                  have hz_32 : z_32.toInt = wl_2.toInt + 1 := by rw [ez_32]; exact jb_iadd2 (rfl) ((by decide)) (by omega)
                  refine lv_ldc hx hb hown hcs_67 dX1_decode_111 ?_
                  refine lv_iload hx hb dX1_decode_113 (lv_at hl 6 rfl) ?_
                  refine lv_ldc hx hb hown hcs_65 dX1_decode_115 ?_
                  refine lv_isub hx hb dX1_decode_117 ?_
                  refine lv_topi (fun z_33 ez_33 => ?_)
                  refine lv_sipush (v := 1023) hx hb dX1_decode_118 (by decide) ?_
                  refine lv_iand hx hb dX1_decode_121 ?_
                  refine lv_topi (fun z_34 ez_34 => ?_)
                  have hz_34 : 0 ≤ z_34.toInt ∧ z_34.toInt ≤ 1023 := by rw [ez_34]; exact jb_and z_33 (m := 1023) (k := 10) (by decide) (by decide)
                  refine lv_iadd hx hb dX1_decode_122 ?_
                  refine lv_topi (fun z_35 ez_35 => ?_)
                  refine j7_iast hx hb hK hh_31 hB hB101 1 rfl (by decide) (by decide) rfl rfl rfl hg_text_27 (x := z_32.toInt) (rfl) (by omega) (trivial) dX1_decode_123 (fun H_36 locs_36 hh_36 => ?_)
                  clear hh_31
                  refine lv_goto (tgt := 148) hx hb dX1_decode_124 (by decide) ?_
                  refine lv_aload_n hx hb dX1_decode_148 rfl (lv_at hl 1 rfl) ?_
                  refine lv_dup hx hb dX1_decode_149 rfl ?_
                  refine j7_read hx hb hown hK (C := RX1) (T := TX1) (N := 17) rfl hly_3_3 hlk_42 (hh_36.at 1 rfl) dX1_decode_150 ?_
                  refine lv_iload hx hb dX1_decode_153 (lv_at hl 0 rfl) ?_
                  refine lv_iadd hx hb dX1_decode_155 ?_
                  refine lv_topi (fun z_37 ez_37 => ?_)
                  have hz_37 : z_37.toInt = wl_2.toInt + w0_9.toInt := by rw [ez_37]; exact jb_iadd2 (rfl) (rfl) (by omega)
                  refine j7_put hx hb hown hK hh_36 hB hAp hB3 (C := RX1) (T := TX1) (N := 17) rfl (by decide) hg_r0 (i := 3) (by decide) hly_3_3 rfl hlk_42 rfl (ty := .int) (v := .int z_37) (by decide +kernel) rfl rfl (⟨_, rfl, by omega, by omega⟩) rfl (L1 := [(r0, 3, 2, .ref text_27)]) [0] rfl rfl rfl dX1_decode_156 (fun H_38 locs_38 hh_38 => ?_)
                  clear hh_36
                  obtain ⟨z_39, ez_39⟩ : ∃ y : Int32, y = v4_2 + 1 := ⟨_, rfl⟩
                  refine lv_iinc (v := z_39) (lv' := [(4, .int z_39), (6, .int w0_9), (0, .ref r0), (1, .ref r1), (2, .int a2), (3, .int z_8), (5, .int r_6)]) hx hb dX1_decode_159 hl (k := 5) rfl (by rw [ez_39]; rfl) (by decide) rfl (fun ls hl => ?_)
                  have hz_39 : z_39.toInt = v4_2.toInt + 1 := by rw [ez_39]; exact jb_iadd2 (rfl) (by decide) (by omega)
                  refine lv_goto (tgt := 10) hx hb dX1_decode_162 (by decide) ?_
                  exact L10 z_8 z_39 z_37 _ _ (hh_38.sub (L1 := [(r0, 3, 3, .int z_37)]) [0] rfl (M1 := []) [] rfl (I1 := []) [] rfl) (by first | omega | (refine ⟨?_, ?_, ?_, ?_, ?_⟩ <;> (first | omega | rfl | assumption | decide | exact Or.inl rfl | exact Or.inr rfl | (simp only; omega)))) (by omega) _ (lv_sub hl [2, 3, 4, 5, 0] rfl)
              · skip
                have c_11' : z_10.toInt > 1500 := jb_le_n (rfl) ((by decide)) c_11
                refine lv_iconst (v := 0) hx hb dX1_decode_73 (by decide) ?_
                rw [hQ]
                exact W.zret (v := 0) hx hb hr (jb_nz (Or.inl rfl)) (fun t ht hW => ⟨⟨0, (), rfl, ⟨(Or.inl rfl), trivial⟩, hh_9.rt (M1 := []) [] rfl ht⟩, by rw [ht]; try exact hh_9.1.1, fun q h9 hq => by rw [ht]; try exact hh_9.1.2.1 q h9 hq⟩) hh_9.1.2.2 dX1_decode_74
            refine lv_icmp_lt (tgt := 57) hx hb dX1_decode_50 (by decide) (fun c_40 => ?_) (fun c_40 => ?_)
            · skip
              have c_40' : r_6.toInt < 65536 := jb_lt (rfl) ((by decide)) c_40
              refine lv_iconst (v := 1) hx hb dX1_decode_57 (by decide) ?_
              exact C58 1 _ _ hh_7 (by first | omega | (refine ⟨?_, ?_⟩ <;> (first | omega | rfl | assumption | decide | exact Or.inl rfl | exact Or.inr rfl | (simp only; omega)))) _ (lv_sub hl [1, 2, 3, 0, 4, 5] rfl)
            · skip
              have c_40' : r_6.toInt ≥ 65536 := jb_lt_n (rfl) ((by decide)) c_40
              refine lv_iconst (v := 2) hx hb dX1_decode_53 (by decide) ?_
              refine lv_goto (tgt := 58) hx hb dX1_decode_54 (by decide) ?_
              exact C58 2 _ _ hh_7 (by first | omega | (refine ⟨?_, ?_⟩ <;> (first | omega | rfl | assumption | decide | exact Or.inl rfl | exact Or.inr rfl | (simp only; omega)))) _ (lv_sub hl [1, 2, 3, 0, 4, 5] rfl)
          refine lv_if_ge (tgt := 39) hx hb dX1_decode_32 (by decide) (fun c_41 => ?_) (fun c_41 => ?_)
          · skip
            have c_41' : r_6.toInt ≥ 0 := jb_ge (rfl) ((by decide)) c_41
            refine lv_iload hx hb dX1_decode_39 (lv_at hl 0 rfl) ?_
            refine vp_callSi (W.runS (As := [.int r_6]) (rest := [.int v3_2]) ⟨hx, hb, hml, hown, hts⟩ (wX0_decodedSize l dC dI ca base H_5 r_6) (va_cwS 1 hts (jgS (jWr_94 _ (List.mem_of_getElem? (i := 1) rfl)) (jWr_22 _ (List.mem_of_getElem? (i := 1) rfl)) (jWr_1 _ (List.mem_of_getElem? (i := 14) rfl)) (jWr_22 _ (List.mem_of_getElem? (i := 2) rfl))) rfl rfl rfl (by decide +kernel) ⟨by rw [← hR]; exact Nat.le_of_ble_eq_true rfl, by rw [← hR]; exact Nat.le_of_ble_eq_true rfl⟩) ⟨fun a U g mk q => by obtain ⟨q0, q1, qK, q9⟩ := q; exact ⟨q0, q1, jG.calling g mk a qK, q9⟩, fun U hU hW => ⟨rfl, hU, hG.step hW hU hh_5.1, by first | trivial | omega | (constructor <;> omega)⟩⟩ rfl rfl hl.1 rfl (lv_room (Nat.le_of_ble_eq_true rfl)) dX1_decode_41 ⟨Nat.zero_le _, Nat.zero_le _⟩) (fun r_42 hr_42 => ?_)
            exact C44 r_42 _ _ hh_5 (by first | omega | (refine ⟨?_, ?_⟩ <;> (first | omega | rfl | assumption | decide | exact Or.inl rfl | exact Or.inr rfl | (simp only; omega)))) _ (lv_sub hl [1, 2, 3, 4, 5, 0] rfl)
          · skip
            have c_41' : r_6.toInt < 0 := jb_ge_n (rfl) ((by decide)) c_41
            refine lv_iconst (v := 1) hx hb dX1_decode_35 (by decide) ?_
            refine lv_goto (tgt := 44) hx hb dX1_decode_36 (by decide) ?_
            exact C44 1 _ _ hh_5 (by first | omega | (refine ⟨?_, ?_⟩ <;> (first | omega | rfl | assumption | decide | exact Or.inl rfl | exact Or.inr rfl | (simp only; omega)))) _ (lv_sub hl [1, 2, 3, 4, 5, 0] rfl)
  exact L10 (((a2.toInt - (0 : Int32).toInt).toNat : Int) : Int).toNat.succ 0 0 0 _ _ hh_1 (by first | omega | (refine ⟨?_, ?_, ?_, ?_, ?_⟩ <;> (first | omega | rfl | assumption | decide | exact Or.inl rfl | exact Or.inr rfl | (simp only; omega)))) (by omega) _ (lv_sub hl [2, 3, 4, 1, 0] rfl)
