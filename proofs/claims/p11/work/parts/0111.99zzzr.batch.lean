section
theorem dX11_batch_0 : decode cX11_batch 0 = .ok (.iload_n 1, 1) := by decide +kernel
theorem dX11_batch_1 : decode cX11_batch 1 = .ok (.ifCond .lt 14, 3) := by decide +kernel
theorem dX11_batch_4 : decode cX11_batch 4 = .ok (.iload_n 1, 1) := by decide +kernel
theorem dX11_batch_5 : decode cX11_batch 5 = .ok (.aload_n 0, 1) := by decide +kernel
theorem dX11_batch_6 : decode cX11_batch 6 = .ok (.getfield 14, 3) := by decide +kernel
theorem dX11_batch_9 : decode cX11_batch 9 = .ok (.getfield 92, 3) := by decide +kernel
theorem dX11_batch_12 : decode cX11_batch 12 = .ok (.if_icmp .le 5, 3) := by decide +kernel
theorem dX11_batch_15 : decode cX11_batch 15 = .ok (.iconst (-1), 1) := by decide +kernel
theorem dX11_batch_16 : decode cX11_batch 16 = .ok (.ireturn, 1) := by decide +kernel
theorem dX11_batch_17 : decode cX11_batch 17 = .ok (.aload_n 0, 1) := by decide +kernel
theorem dX11_batch_18 : decode cX11_batch 18 = .ok (.getfield 14, 3) := by decide +kernel
theorem dX11_batch_21 : decode cX11_batch 21 = .ok (.iconst 0, 1) := by decide +kernel
theorem dX11_batch_22 : decode cX11_batch 22 = .ok (.putfield 92, 3) := by decide +kernel
theorem dX11_batch_25 : decode cX11_batch 25 = .ok (.aload_n 0, 1) := by decide +kernel
theorem dX11_batch_26 : decode cX11_batch 26 = .ok (.getfield 82, 3) := by decide +kernel
theorem dX11_batch_29 : decode cX11_batch 29 = .ok (.astore_n 2, 1) := by decide +kernel
theorem dX11_batch_30 : decode cX11_batch 30 = .ok (.aload_n 2, 1) := by decide +kernel
theorem dX11_batch_31 : decode cX11_batch 31 = .ok (.aload_n 0, 1) := by decide +kernel
theorem dX11_batch_32 : decode cX11_batch 32 = .ok (.getfield 14, 3) := by decide +kernel
theorem dX11_batch_35 : decode cX11_batch 35 = .ok (.getfield 98, 3) := by decide +kernel
theorem dX11_batch_38 : decode cX11_batch 38 = .ok (.iload_n 1, 1) := by decide +kernel
theorem dX11_batch_39 : decode cX11_batch 39 = .ok (.invokevirtual 196, 3) := by decide +kernel
theorem dX11_batch_42 : decode cX11_batch 42 = .ok (.ifCond .ne 6, 3) := by decide +kernel
theorem dX11_batch_45 : decode cX11_batch 45 = .ok (.bipush (-2), 2) := by decide +kernel
theorem dX11_batch_47 : decode cX11_batch 47 = .ok (.ireturn, 1) := by decide +kernel
theorem dX11_batch_48 : decode cX11_batch 48 = .ok (.aload_n 0, 1) := by decide +kernel
theorem dX11_batch_49 : decode cX11_batch 49 = .ok (.aload_n 0, 1) := by decide +kernel
theorem dX11_batch_50 : decode cX11_batch 50 = .ok (.getfield 200, 3) := by decide +kernel
theorem dX11_batch_53 : decode cX11_batch 53 = .ok (.ifnonnull 13, 3) := by decide +kernel
theorem dX11_batch_56 : decode cX11_batch 56 = .ok (.new 71, 3) := by decide +kernel
theorem dX11_batch_59 : decode cX11_batch 59 = .ok (.dup, 1) := by decide +kernel
theorem dX11_batch_60 : decode cX11_batch 60 = .ok (.invokespecial 81, 3) := by decide +kernel
theorem dX11_batch_63 : decode cX11_batch 63 = .ok (.goto 7, 3) := by decide +kernel
theorem dX11_batch_66 : decode cX11_batch 66 = .ok (.aload_n 0, 1) := by decide +kernel
theorem dX11_batch_67 : decode cX11_batch 67 = .ok (.getfield 200, 3) := by decide +kernel
theorem dX11_batch_70 : decode cX11_batch 70 = .ok (.putfield 82, 3) := by decide +kernel
theorem dX11_batch_73 : decode cX11_batch 73 = .ok (.aload_n 0, 1) := by decide +kernel
theorem dX11_batch_74 : decode cX11_batch 74 = .ok (.aload_n 2, 1) := by decide +kernel
theorem dX11_batch_75 : decode cX11_batch 75 = .ok (.putfield 200, 3) := by decide +kernel
theorem dX11_batch_78 : decode cX11_batch 78 = .ok (.aload_n 0, 1) := by decide +kernel
theorem dX11_batch_79 : decode cX11_batch 79 = .ok (.bipush (-2), 2) := by decide +kernel
theorem dX11_batch_81 : decode cX11_batch 81 = .ok (.putfield 89, 3) := by decide +kernel
theorem dX11_batch_84 : decode cX11_batch 84 = .ok (.aload_n 2, 1) := by decide +kernel
theorem dX11_batch_85 : decode cX11_batch 85 = .ok (.aload_n 0, 1) := by decide +kernel
theorem dX11_batch_86 : decode cX11_batch 86 = .ok (.getfield 41, 3) := by decide +kernel
theorem dX11_batch_89 : decode cX11_batch 89 = .ok (.getfield 203, 3) := by decide +kernel
theorem dX11_batch_92 : decode cX11_batch 92 = .ok (.invokevirtual 207, 3) := by decide +kernel
theorem dX11_batch_95 : decode cX11_batch 95 = .ok (.iconst 0, 1) := by decide +kernel
theorem dX11_batch_96 : decode cX11_batch 96 = .ok (.istore_n 3, 1) := by decide +kernel
theorem dX11_batch_97 : decode cX11_batch 97 = .ok (.iload_n 3, 1) := by decide +kernel
theorem dX11_batch_98 : decode cX11_batch 98 = .ok (.aload_n 2, 1) := by decide +kernel
theorem dX11_batch_99 : decode cX11_batch 99 = .ok (.getfield 168, 3) := by decide +kernel
theorem dX11_batch_102 : decode cX11_batch 102 = .ok (.if_icmp .ge 63, 3) := by decide +kernel
theorem dX11_batch_105 : decode cX11_batch 105 = .ok (.aload_n 2, 1) := by decide +kernel
theorem dX11_batch_106 : decode cX11_batch 106 = .ok (.getfield 174, 3) := by decide +kernel
theorem dX11_batch_109 : decode cX11_batch 109 = .ok (.aload_n 2, 1) := by decide +kernel
theorem dX11_batch_110 : decode cX11_batch 110 = .ok (.getfield 182, 3) := by decide +kernel
theorem dX11_batch_113 : decode cX11_batch 113 = .ok (.iload_n 3, 1) := by decide +kernel
theorem dX11_batch_114 : decode cX11_batch 114 = .ok (.iaload, 1) := by decide +kernel
theorem dX11_batch_115 : decode cX11_batch 115 = .ok (.aload_n 2, 1) := by decide +kernel
theorem dX11_batch_116 : decode cX11_batch 116 = .ok (.getfield 185, 3) := by decide +kernel
theorem dX11_batch_119 : decode cX11_batch 119 = .ok (.iload_n 3, 1) := by decide +kernel
theorem dX11_batch_120 : decode cX11_batch 120 = .ok (.iaload, 1) := by decide +kernel
theorem dX11_batch_121 : decode cX11_batch 121 = .ok (.invokestatic 211, 3) := by decide +kernel
theorem dX11_batch_124 : decode cX11_batch 124 = .ok (.astore 4, 2) := by decide +kernel
theorem dX11_batch_126 : decode cX11_batch 126 = .ok (.aload_n 2, 1) := by decide +kernel
theorem dX11_batch_127 : decode cX11_batch 127 = .ok (.getfield 178, 3) := by decide +kernel
theorem dX11_batch_130 : decode cX11_batch 130 = .ok (.iload_n 3, 1) := by decide +kernel
theorem dX11_batch_131 : decode cX11_batch 131 = .ok (.aload_n 0, 1) := by decide +kernel
theorem dX11_batch_132 : decode cX11_batch 132 = .ok (.getfield 41, 3) := by decide +kernel
theorem dX11_batch_135 : decode cX11_batch 135 = .ok (.aload_n 2, 1) := by decide +kernel
theorem dX11_batch_136 : decode cX11_batch 136 = .ok (.iload_n 3, 1) := by decide +kernel
theorem dX11_batch_137 : decode cX11_batch 137 = .ok (.aload_n 0, 1) := by decide +kernel
theorem dX11_batch_138 : decode cX11_batch 138 = .ok (.getfield 41, 3) := by decide +kernel
theorem dX11_batch_141 : decode cX11_batch 141 = .ok (.getfield 217, 3) := by decide +kernel
theorem dX11_batch_144 : decode cX11_batch 144 = .ok (.invokevirtual 221, 3) := by decide +kernel
theorem dX11_batch_147 : decode cX11_batch 147 = .ok (.aload 4, 2) := by decide +kernel
theorem dX11_batch_149 : decode cX11_batch 149 = .ok (.aload_n 2, 1) := by decide +kernel
theorem dX11_batch_150 : decode cX11_batch 150 = .ok (.getfield 225, 3) := by decide +kernel
theorem dX11_batch_153 : decode cX11_batch 153 = .ok (.iload_n 3, 1) := by decide +kernel
theorem dX11_batch_154 : decode cX11_batch 154 = .ok (.iaload, 1) := by decide +kernel
theorem dX11_batch_155 : decode cX11_batch 155 = .ok (.invokevirtual 228, 3) := by decide +kernel
theorem dX11_batch_158 : decode cX11_batch 158 = .ok (.aastore, 1) := by decide +kernel
theorem dX11_batch_159 : decode cX11_batch 159 = .ok (.iinc 3 1, 3) := by decide +kernel
theorem dX11_batch_162 : decode cX11_batch 162 = .ok (.goto (-65), 3) := by decide +kernel
theorem dX11_batch_165 : decode cX11_batch 165 = .ok (.aload_n 2, 1) := by decide +kernel
theorem dX11_batch_166 : decode cX11_batch 166 = .ok (.getfield 168, 3) := by decide +kernel
theorem dX11_batch_169 : decode cX11_batch 169 = .ok (.ireturn, 1) := by decide +kernel
end
