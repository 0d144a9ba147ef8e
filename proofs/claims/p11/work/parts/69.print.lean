def F9 (n : Nat) (G : jT) : List (Value → Prop) := [jRf G 8 0, jRf G 182 800, jI 0 800, jRf G 183 13, jRf G 184 13]
theorem dX7_push_0 : decode cX7_push 0 = .ok (.aload_n 0, 1) := by decide +kernel
theorem dX7_push_1 : decode cX7_push 1 = .ok (.getfield 103, 3) := by decide +kernel
theorem dX7_push_4 : decode cX7_push 4 = .ok (.aload_n 0, 1) := by decide +kernel
theorem dX7_push_5 : decode cX7_push 5 = .ok (.getfield 11, 3) := by decide +kernel
theorem dX7_push_8 : decode cX7_push 8 = .ok (.arraylength, 1) := by decide +kernel
theorem dX7_push_9 : decode cX7_push 9 = .ok (.if_icmp .ge 27, 3) := by decide +kernel
theorem dX7_push_12 : decode cX7_push 12 = .ok (.aload_n 0, 1) := by decide +kernel
theorem dX7_push_13 : decode cX7_push 13 = .ok (.getfield 11, 3) := by decide +kernel
theorem dX7_push_16 : decode cX7_push 16 = .ok (.aload_n 0, 1) := by decide +kernel
theorem dX7_push_17 : decode cX7_push 17 = .ok (.getfield 103, 3) := by decide +kernel
theorem dX7_push_20 : decode cX7_push 20 = .ok (.iload_n 2, 1) := by decide +kernel
theorem dX7_push_21 : decode cX7_push 21 = .ok (.iconst 2, 1) := by decide +kernel
theorem dX7_push_22 : decode cX7_push 22 = .ok (.ishl, 1) := by decide +kernel
theorem dX7_push_23 : decode cX7_push 23 = .ok (.iload_n 1, 1) := by decide +kernel
theorem dX7_push_24 : decode cX7_push 24 = .ok (.ior, 1) := by decide +kernel
theorem dX7_push_25 : decode cX7_push 25 = .ok (.iastore, 1) := by decide +kernel
theorem dX7_push_26 : decode cX7_push 26 = .ok (.aload_n 0, 1) := by decide +kernel
theorem dX7_push_27 : decode cX7_push 27 = .ok (.dup, 1) := by decide +kernel
theorem dX7_push_28 : decode cX7_push 28 = .ok (.getfield 103, 3) := by decide +kernel
theorem dX7_push_31 : decode cX7_push 31 = .ok (.iconst 1, 1) := by decide +kernel
theorem dX7_push_32 : decode cX7_push 32 = .ok (.iadd, 1) := by decide +kernel
theorem dX7_push_33 : decode cX7_push 33 = .ok (.putfield 103, 3) := by decide +kernel
theorem dX7_push_36 : decode cX7_push 36 = .ok (.return_, 1) := by decide +kernel
theorem dX7_pushJoined_0 : decode cX7_pushJoined 0 = .ok (.iload_n 2, 1) := by decide +kernel
theorem dX7_pushJoined_1 : decode cX7_pushJoined 1 = .ok (.iconst 1, 1) := by decide +kernel
theorem dX7_pushJoined_2 : decode cX7_pushJoined 2 = .ok (.iadd, 1) := by decide +kernel
theorem dX7_pushJoined_3 : decode cX7_pushJoined 3 = .ok (.istore 4, 2) := by decide +kernel
theorem dX7_pushJoined_5 : decode cX7_pushJoined 5 = .ok (.aload_n 1, 1) := by decide +kernel
theorem dX7_pushJoined_6 : decode cX7_pushJoined 6 = .ok (.iload 4, 2) := by decide +kernel
theorem dX7_pushJoined_8 : decode cX7_pushJoined 8 = .ok (.aload_n 1, 1) := by decide +kernel
theorem dX7_pushJoined_9 : decode cX7_pushJoined 9 = .ok (.arraylength, 1) := by decide +kernel
theorem dX7_pushJoined_10 : decode cX7_pushJoined 10 = .ok (.invokestatic 144, 3) := by decide +kernel
theorem dX7_pushJoined_13 : decode cX7_pushJoined 13 = .ok (.istore 5, 2) := by decide +kernel
theorem dX7_pushJoined_15 : decode cX7_pushJoined 15 = .ok (.iload 5, 2) := by decide +kernel
theorem dX7_pushJoined_17 : decode cX7_pushJoined 17 = .ok (.aload_n 1, 1) := by decide +kernel
theorem dX7_pushJoined_18 : decode cX7_pushJoined 18 = .ok (.arraylength, 1) := by decide +kernel
theorem dX7_pushJoined_19 : decode cX7_pushJoined 19 = .ok (.if_icmp .lt 4, 3) := by decide +kernel
theorem dX7_pushJoined_22 : decode cX7_pushJoined 22 = .ok (.return_, 1) := by decide +kernel
theorem dX7_pushJoined_23 : decode cX7_pushJoined 23 = .ok (.aload_n 1, 1) := by decide +kernel
theorem dX7_pushJoined_24 : decode cX7_pushJoined 24 = .ok (.iload_n 2, 1) := by decide +kernel
theorem dX7_pushJoined_25 : decode cX7_pushJoined 25 = .ok (.iaload, 1) := by decide +kernel
theorem dX7_pushJoined_26 : decode cX7_pushJoined 26 = .ok (.bipush 15, 2) := by decide +kernel
theorem dX7_pushJoined_28 : decode cX7_pushJoined 28 = .ok (.iand, 1) := by decide +kernel
theorem dX7_pushJoined_29 : decode cX7_pushJoined 29 = .ok (.istore 6, 2) := by decide +kernel
theorem dX7_pushJoined_31 : decode cX7_pushJoined 31 = .ok (.aload_n 1, 1) := by decide +kernel
theorem dX7_pushJoined_32 : decode cX7_pushJoined 32 = .ok (.iload 4, 2) := by decide +kernel
theorem dX7_pushJoined_34 : decode cX7_pushJoined 34 = .ok (.iaload, 1) := by decide +kernel
theorem dX7_pushJoined_35 : decode cX7_pushJoined 35 = .ok (.bipush 15, 2) := by decide +kernel
theorem dX7_pushJoined_37 : decode cX7_pushJoined 37 = .ok (.iand, 1) := by decide +kernel
theorem dX7_pushJoined_38 : decode cX7_pushJoined 38 = .ok (.istore 7, 2) := by decide +kernel
theorem dX7_pushJoined_40 : decode cX7_pushJoined 40 = .ok (.aload_n 1, 1) := by decide +kernel
theorem dX7_pushJoined_41 : decode cX7_pushJoined 41 = .ok (.iload 5, 2) := by decide +kernel
theorem dX7_pushJoined_43 : decode cX7_pushJoined 43 = .ok (.iaload, 1) := by decide +kernel
theorem dX7_pushJoined_44 : decode cX7_pushJoined 44 = .ok (.bipush 15, 2) := by decide +kernel
theorem dX7_pushJoined_46 : decode cX7_pushJoined 46 = .ok (.iand, 1) := by decide +kernel
theorem dX7_pushJoined_47 : decode cX7_pushJoined 47 = .ok (.istore 8, 2) := by decide +kernel
theorem dX7_pushJoined_49 : decode cX7_pushJoined 49 = .ok (.iload 7, 2) := by decide +kernel
theorem dX7_pushJoined_51 : decode cX7_pushJoined 51 = .ok (.iconst 1, 1) := by decide +kernel
theorem dX7_pushJoined_52 : decode cX7_pushJoined 52 = .ok (.if_icmp .eq 27, 3) := by decide +kernel
theorem dX7_pushJoined_55 : decode cX7_pushJoined 55 = .ok (.iload 7, 2) := by decide +kernel
theorem dX7_pushJoined_57 : decode cX7_pushJoined 57 = .ok (.iconst 3, 1) := by decide +kernel
theorem dX7_pushJoined_58 : decode cX7_pushJoined 58 = .ok (.if_icmp .ne 9, 3) := by decide +kernel
theorem dX7_pushJoined_61 : decode cX7_pushJoined 61 = .ok (.iload 6, 2) := by decide +kernel
theorem dX7_pushJoined_63 : decode cX7_pushJoined 63 = .ok (.iconst 1, 1) := by decide +kernel
theorem dX7_pushJoined_64 : decode cX7_pushJoined 64 = .ok (.if_icmp .ne 15, 3) := by decide +kernel
theorem dX7_pushJoined_67 : decode cX7_pushJoined 67 = .ok (.iload 7, 2) := by decide +kernel
theorem dX7_pushJoined_69 : decode cX7_pushJoined 69 = .ok (.iconst 2, 1) := by decide +kernel
theorem dX7_pushJoined_70 : decode cX7_pushJoined 70 = .ok (.if_icmp .ne 13, 3) := by decide +kernel
theorem dX7_pushJoined_73 : decode cX7_pushJoined 73 = .ok (.iload 6, 2) := by decide +kernel
theorem dX7_pushJoined_75 : decode cX7_pushJoined 75 = .ok (.iconst 2, 1) := by decide +kernel
theorem dX7_pushJoined_76 : decode cX7_pushJoined 76 = .ok (.if_icmp .ne 7, 3) := by decide +kernel
theorem dX7_pushJoined_79 : decode cX7_pushJoined 79 = .ok (.iconst 1, 1) := by decide +kernel
theorem dX7_pushJoined_80 : decode cX7_pushJoined 80 = .ok (.goto 4, 3) := by decide +kernel
theorem dX7_pushJoined_83 : decode cX7_pushJoined 83 = .ok (.iconst 0, 1) := by decide +kernel
theorem dX7_pushJoined_84 : decode cX7_pushJoined 84 = .ok (.istore 9, 2) := by decide +kernel
theorem dX7_pushJoined_86 : decode cX7_pushJoined 86 = .ok (.iload 8, 2) := by decide +kernel
theorem dX7_pushJoined_88 : decode cX7_pushJoined 88 = .ok (.iconst 1, 1) := by decide +kernel
theorem dX7_pushJoined_89 : decode cX7_pushJoined 89 = .ok (.if_icmp .ne 9, 3) := by decide +kernel
theorem dX7_pushJoined_92 : decode cX7_pushJoined 92 = .ok (.iload 6, 2) := by decide +kernel
theorem dX7_pushJoined_94 : decode cX7_pushJoined 94 = .ok (.iconst 1, 1) := by decide +kernel
theorem dX7_pushJoined_95 : decode cX7_pushJoined 95 = .ok (.if_icmp .ne 15, 3) := by decide +kernel
theorem dX7_pushJoined_98 : decode cX7_pushJoined 98 = .ok (.iload 8, 2) := by decide +kernel
theorem dX7_pushJoined_100 : decode cX7_pushJoined 100 = .ok (.iconst 3, 1) := by decide +kernel
theorem dX7_pushJoined_101 : decode cX7_pushJoined 101 = .ok (.if_icmp .ne 13, 3) := by decide +kernel
theorem dX7_pushJoined_104 : decode cX7_pushJoined 104 = .ok (.iload 6, 2) := by decide +kernel
theorem dX7_pushJoined_106 : decode cX7_pushJoined 106 = .ok (.iconst 2, 1) := by decide +kernel
theorem dX7_pushJoined_107 : decode cX7_pushJoined 107 = .ok (.if_icmp .ne 7, 3) := by decide +kernel
theorem dX7_pushJoined_110 : decode cX7_pushJoined 110 = .ok (.iconst 1, 1) := by decide +kernel
theorem dX7_pushJoined_111 : decode cX7_pushJoined 111 = .ok (.goto 4, 3) := by decide +kernel
theorem dX7_pushJoined_114 : decode cX7_pushJoined 114 = .ok (.iconst 0, 1) := by decide +kernel
theorem dX7_pushJoined_115 : decode cX7_pushJoined 115 = .ok (.istore 10, 2) := by decide +kernel
theorem dX7_pushJoined_117 : decode cX7_pushJoined 117 = .ok (.aload_n 0, 1) := by decide +kernel
theorem dX7_pushJoined_118 : decode cX7_pushJoined 118 = .ok (.iconst 2, 1) := by decide +kernel
theorem dX7_pushJoined_119 : decode cX7_pushJoined 119 = .ok (.iload 5, 2) := by decide +kernel
theorem dX7_pushJoined_121 : decode cX7_pushJoined 121 = .ok (.iload_n 3, 1) := by decide +kernel
theorem dX7_pushJoined_122 : decode cX7_pushJoined 122 = .ok (.ior, 1) := by decide +kernel
theorem dX7_pushJoined_123 : decode cX7_pushJoined 123 = .ok (.iload 10, 2) := by decide +kernel
theorem dX7_pushJoined_125 : decode cX7_pushJoined 125 = .ok (.ifCond .eq 9, 3) := by decide +kernel
theorem dX7_pushJoined_128 : decode cX7_pushJoined 128 = .ok (.sipush 512, 3) := by decide +kernel
theorem dX7_pushJoined_131 : decode cX7_pushJoined 131 = .ok (.goto 4, 3) := by decide +kernel
theorem dX7_pushJoined_134 : decode cX7_pushJoined 134 = .ok (.iconst 0, 1) := by decide +kernel
theorem dX7_pushJoined_135 : decode cX7_pushJoined 135 = .ok (.ior, 1) := by decide +kernel
theorem dX7_pushJoined_136 : decode cX7_pushJoined 136 = .ok (.invokevirtual 106, 3) := by decide +kernel
theorem dX7_pushJoined_139 : decode cX7_pushJoined 139 = .ok (.aload_n 0, 1) := by decide +kernel
theorem dX7_pushJoined_140 : decode cX7_pushJoined 140 = .ok (.iconst 0, 1) := by decide +kernel
theorem dX7_pushJoined_141 : decode cX7_pushJoined 141 = .ok (.iload 6, 2) := by decide +kernel
theorem dX7_pushJoined_143 : decode cX7_pushJoined 143 = .ok (.invokevirtual 106, 3) := by decide +kernel
theorem dX7_pushJoined_146 : decode cX7_pushJoined 146 = .ok (.aload_n 0, 1) := by decide +kernel
theorem dX7_pushJoined_147 : decode cX7_pushJoined 147 = .ok (.iconst 2, 1) := by decide +kernel
theorem dX7_pushJoined_148 : decode cX7_pushJoined 148 = .ok (.iload 4, 2) := by decide +kernel
theorem dX7_pushJoined_150 : decode cX7_pushJoined 150 = .ok (.iload_n 3, 1) := by decide +kernel
theorem dX7_pushJoined_151 : decode cX7_pushJoined 151 = .ok (.sipush (-257), 3) := by decide +kernel
theorem dX7_pushJoined_154 : decode cX7_pushJoined 154 = .ok (.iand, 1) := by decide +kernel
theorem dX7_pushJoined_155 : decode cX7_pushJoined 155 = .ok (.ior, 1) := by decide +kernel
theorem dX7_pushJoined_156 : decode cX7_pushJoined 156 = .ok (.iload 9, 2) := by decide +kernel
theorem dX7_pushJoined_158 : decode cX7_pushJoined 158 = .ok (.ifCond .eq 9, 3) := by decide +kernel
theorem dX7_pushJoined_161 : decode cX7_pushJoined 161 = .ok (.sipush 512, 3) := by decide +kernel
theorem dX7_pushJoined_164 : decode cX7_pushJoined 164 = .ok (.goto 4, 3) := by decide +kernel
theorem dX7_pushJoined_167 : decode cX7_pushJoined 167 = .ok (.iconst 0, 1) := by decide +kernel
theorem dX7_pushJoined_168 : decode cX7_pushJoined 168 = .ok (.ior, 1) := by decide +kernel
theorem dX7_pushJoined_169 : decode cX7_pushJoined 169 = .ok (.invokevirtual 106, 3) := by decide +kernel
theorem dX7_pushJoined_172 : decode cX7_pushJoined 172 = .ok (.return_, 1) := by decide +kernel
theorem dX7_pushQuantified_0 : decode cX7_pushQuantified 0 = .ok (.iload_n 3, 1) := by decide +kernel
theorem dX7_pushQuantified_1 : decode cX7_pushQuantified 1 = .ok (.aload_n 0, 1) := by decide +kernel
theorem dX7_pushQuantified_2 : decode cX7_pushQuantified 2 = .ok (.getfield 15, 3) := by decide +kernel
theorem dX7_pushQuantified_5 : decode cX7_pushQuantified 5 = .ok (.arraylength, 1) := by decide +kernel
theorem dX7_pushQuantified_6 : decode cX7_pushQuantified 6 = .ok (.if_icmp .lt 4, 3) := by decide +kernel
theorem dX7_pushQuantified_9 : decode cX7_pushQuantified 9 = .ok (.return_, 1) := by decide +kernel
theorem dX7_pushQuantified_10 : decode cX7_pushQuantified 10 = .ok (.aload_n 1, 1) := by decide +kernel
theorem dX7_pushQuantified_11 : decode cX7_pushQuantified 11 = .ok (.iload_n 2, 1) := by decide +kernel
theorem dX7_pushQuantified_12 : decode cX7_pushQuantified 12 = .ok (.aload_n 1, 1) := by decide +kernel
theorem dX7_pushQuantified_13 : decode cX7_pushQuantified 13 = .ok (.arraylength, 1) := by decide +kernel
theorem dX7_pushQuantified_14 : decode cX7_pushQuantified 14 = .ok (.invokestatic 144, 3) := by decide +kernel
theorem dX7_pushQuantified_17 : decode cX7_pushQuantified 17 = .ok (.istore 4, 2) := by decide +kernel
theorem dX7_pushQuantified_19 : decode cX7_pushQuantified 19 = .ok (.aload_n 0, 1) := by decide +kernel
theorem dX7_pushQuantified_20 : decode cX7_pushQuantified 20 = .ok (.getfield 15, 3) := by decide +kernel
theorem dX7_pushQuantified_23 : decode cX7_pushQuantified 23 = .ok (.iload_n 3, 1) := by decide +kernel
theorem dX7_pushQuantified_24 : decode cX7_pushQuantified 24 = .ok (.aload_n 1, 1) := by decide +kernel
theorem dX7_pushQuantified_25 : decode cX7_pushQuantified 25 = .ok (.iload_n 2, 1) := by decide +kernel
theorem dX7_pushQuantified_26 : decode cX7_pushQuantified 26 = .ok (.iaload, 1) := by decide +kernel
theorem dX7_pushQuantified_27 : decode cX7_pushQuantified 27 = .ok (.bipush 15, 2) := by decide +kernel
theorem dX7_pushQuantified_29 : decode cX7_pushQuantified 29 = .ok (.ishr, 1) := by decide +kernel
theorem dX7_pushQuantified_30 : decode cX7_pushQuantified 30 = .ok (.iastore, 1) := by decide +kernel
theorem dX7_pushQuantified_31 : decode cX7_pushQuantified 31 = .ok (.aload_n 0, 1) := by decide +kernel
theorem dX7_pushQuantified_32 : decode cX7_pushQuantified 32 = .ok (.getfield 18, 3) := by decide +kernel
theorem dX7_pushQuantified_35 : decode cX7_pushQuantified 35 = .ok (.iload_n 3, 1) := by decide +kernel
theorem dX7_pushQuantified_36 : decode cX7_pushQuantified 36 = .ok (.iconst 0, 1) := by decide +kernel
theorem dX7_pushQuantified_37 : decode cX7_pushQuantified 37 = .ok (.iastore, 1) := by decide +kernel
theorem dX7_pushQuantified_38 : decode cX7_pushQuantified 38 = .ok (.iconst 0, 1) := by decide +kernel
theorem dX7_pushQuantified_39 : decode cX7_pushQuantified 39 = .ok (.istore 5, 2) := by decide +kernel
theorem dX7_pushQuantified_41 : decode cX7_pushQuantified 41 = .ok (.iload 5, 2) := by decide +kernel
theorem dX7_pushQuantified_43 : decode cX7_pushQuantified 43 = .ok (.sipush 160, 3) := by decide +kernel
theorem dX7_pushQuantified_46 : decode cX7_pushQuantified 46 = .ok (.if_icmp .ge 33, 3) := by decide +kernel
theorem dX7_pushQuantified_49 : decode cX7_pushQuantified 49 = .ok (.aload_n 0, 1) := by decide +kernel
theorem dX7_pushQuantified_50 : decode cX7_pushQuantified 50 = .ok (.aload_n 1, 1) := by decide +kernel
theorem dX7_pushQuantified_51 : decode cX7_pushQuantified 51 = .ok (.iload_n 2, 1) := by decide +kernel
theorem dX7_pushQuantified_52 : decode cX7_pushQuantified 52 = .ok (.iconst 1, 1) := by decide +kernel
theorem dX7_pushQuantified_53 : decode cX7_pushQuantified 53 = .ok (.iadd, 1) := by decide +kernel
theorem dX7_pushQuantified_54 : decode cX7_pushQuantified 54 = .ok (.iload 4, 2) := by decide +kernel
theorem dX7_pushQuantified_56 : decode cX7_pushQuantified 56 = .ok (.iload_n 3, 1) := by decide +kernel
theorem dX7_pushQuantified_57 : decode cX7_pushQuantified 57 = .ok (.invokevirtual 148, 3) := by decide +kernel
theorem dX7_pushQuantified_60 : decode cX7_pushQuantified 60 = .ok (.ifCond .eq 19, 3) := by decide +kernel
theorem dX7_pushQuantified_63 : decode cX7_pushQuantified 63 = .ok (.aload_n 0, 1) := by decide +kernel
theorem dX7_pushQuantified_64 : decode cX7_pushQuantified 64 = .ok (.getfield 18, 3) := by decide +kernel
theorem dX7_pushQuantified_67 : decode cX7_pushQuantified 67 = .ok (.iload_n 3, 1) := by decide +kernel
theorem dX7_pushQuantified_68 : decode cX7_pushQuantified 68 = .ok (.dup2, 1) := by decide +kernel
theorem dX7_pushQuantified_69 : decode cX7_pushQuantified 69 = .ok (.iaload, 1) := by decide +kernel
theorem dX7_pushQuantified_70 : decode cX7_pushQuantified 70 = .ok (.iconst 1, 1) := by decide +kernel
theorem dX7_pushQuantified_71 : decode cX7_pushQuantified 71 = .ok (.iadd, 1) := by decide +kernel
theorem dX7_pushQuantified_72 : decode cX7_pushQuantified 72 = .ok (.iastore, 1) := by decide +kernel
theorem dX7_pushQuantified_73 : decode cX7_pushQuantified 73 = .ok (.iinc 5 1, 3) := by decide +kernel
theorem dX7_pushQuantified_76 : decode cX7_pushQuantified 76 = .ok (.goto (-35), 3) := by decide +kernel
theorem dX7_pushQuantified_79 : decode cX7_pushQuantified 79 = .ok (.aload_n 0, 1) := by decide +kernel
theorem dX7_pushQuantified_80 : decode cX7_pushQuantified 80 = .ok (.iconst 2, 1) := by decide +kernel
theorem dX7_pushQuantified_81 : decode cX7_pushQuantified 81 = .ok (.iload_n 2, 1) := by decide +kernel
theorem dX7_pushQuantified_82 : decode cX7_pushQuantified 82 = .ok (.iconst 1, 1) := by decide +kernel
theorem dX7_pushQuantified_83 : decode cX7_pushQuantified 83 = .ok (.iadd, 1) := by decide +kernel
theorem dX7_pushQuantified_84 : decode cX7_pushQuantified 84 = .ok (.sipush 256, 3) := by decide +kernel
theorem dX7_pushQuantified_87 : decode cX7_pushQuantified 87 = .ok (.ior, 1) := by decide +kernel
theorem dX7_pushQuantified_88 : decode cX7_pushQuantified 88 = .ok (.iload_n 3, 1) := by decide +kernel
theorem dX7_pushQuantified_89 : decode cX7_pushQuantified 89 = .ok (.iconst 1, 1) := by decide +kernel
theorem dX7_pushQuantified_90 : decode cX7_pushQuantified 90 = .ok (.iadd, 1) := by decide +kernel
theorem dX7_pushQuantified_91 : decode cX7_pushQuantified 91 = .ok (.bipush 10, 2) := by decide +kernel
theorem dX7_pushQuantified_93 : decode cX7_pushQuantified 93 = .ok (.ishl, 1) := by decide +kernel
theorem dX7_pushQuantified_94 : decode cX7_pushQuantified 94 = .ok (.ior, 1) := by decide +kernel
theorem dX7_pushQuantified_95 : decode cX7_pushQuantified 95 = .ok (.invokevirtual 106, 3) := by decide +kernel
theorem dX7_pushQuantified_98 : decode cX7_pushQuantified 98 = .ok (.aload_n 0, 1) := by decide +kernel
theorem dX7_pushQuantified_99 : decode cX7_pushQuantified 99 = .ok (.iconst 0, 1) := by decide +kernel
theorem dX7_pushQuantified_100 : decode cX7_pushQuantified 100 = .ok (.bipush 18, 2) := by decide +kernel
theorem dX7_pushQuantified_102 : decode cX7_pushQuantified 102 = .ok (.invokevirtual 106, 3) := by decide +kernel
theorem dX7_pushQuantified_105 : decode cX7_pushQuantified 105 = .ok (.aload_n 0, 1) := by decide +kernel
theorem dX7_pushQuantified_106 : decode cX7_pushQuantified 106 = .ok (.iconst 1, 1) := by decide +kernel
theorem dX7_pushQuantified_107 : decode cX7_pushQuantified 107 = .ok (.aload_n 0, 1) := by decide +kernel
theorem dX7_pushQuantified_108 : decode cX7_pushQuantified 108 = .ok (.getfield 15, 3) := by decide +kernel
theorem dX7_pushQuantified_111 : decode cX7_pushQuantified 111 = .ok (.iload_n 3, 1) := by decide +kernel
theorem dX7_pushQuantified_112 : decode cX7_pushQuantified 112 = .ok (.iaload, 1) := by decide +kernel
theorem dX7_pushQuantified_113 : decode cX7_pushQuantified 113 = .ok (.aload_n 0, 1) := by decide +kernel
theorem dX7_pushQuantified_114 : decode cX7_pushQuantified 114 = .ok (.getfield 18, 3) := by decide +kernel
theorem dX7_pushQuantified_117 : decode cX7_pushQuantified 117 = .ok (.iload_n 3, 1) := by decide +kernel
theorem dX7_pushQuantified_118 : decode cX7_pushQuantified 118 = .ok (.iaload, 1) := by decide +kernel
theorem dX7_pushQuantified_119 : decode cX7_pushQuantified 119 = .ok (.bipush 17, 2) := by decide +kernel
theorem dX7_pushQuantified_121 : decode cX7_pushQuantified 121 = .ok (.ishl, 1) := by decide +kernel
theorem dX7_pushQuantified_122 : decode cX7_pushQuantified 122 = .ok (.ior, 1) := by decide +kernel
theorem dX7_pushQuantified_123 : decode cX7_pushQuantified 123 = .ok (.invokevirtual 106, 3) := by decide +kernel
theorem dX7_pushQuantified_126 : decode cX7_pushQuantified 126 = .ok (.aload_n 0, 1) := by decide +kernel
theorem dX7_pushQuantified_127 : decode cX7_pushQuantified 127 = .ok (.iconst 0, 1) := by decide +kernel
theorem dX7_pushQuantified_128 : decode cX7_pushQuantified 128 = .ok (.aload_n 1, 1) := by decide +kernel
theorem dX7_pushQuantified_129 : decode cX7_pushQuantified 129 = .ok (.iload_n 2, 1) := by decide +kernel
theorem dX7_pushQuantified_130 : decode cX7_pushQuantified 130 = .ok (.iaload, 1) := by decide +kernel
theorem dX7_pushQuantified_131 : decode cX7_pushQuantified 131 = .ok (.bipush 15, 2) := by decide +kernel
theorem dX7_pushQuantified_133 : decode cX7_pushQuantified 133 = .ok (.iand, 1) := by decide +kernel
theorem dX7_pushQuantified_134 : decode cX7_pushQuantified 134 = .ok (.invokevirtual 106, 3) := by decide +kernel
theorem dX7_pushQuantified_137 : decode cX7_pushQuantified 137 = .ok (.return_, 1) := by decide +kernel
theorem dX7_isWrittenIn_0 : decode cX7_isWrittenIn 0 = .ok (.aload_n 0, 1) := by decide +kernel
theorem dX7_isWrittenIn_1 : decode cX7_isWrittenIn 1 = .ok (.getfield 15, 3) := by decide +kernel
theorem dX7_isWrittenIn_4 : decode cX7_isWrittenIn 4 = .ok (.iload 4, 2) := by decide +kernel
theorem dX7_isWrittenIn_6 : decode cX7_isWrittenIn 6 = .ok (.iaload, 1) := by decide +kernel
theorem dX7_isWrittenIn_7 : decode cX7_isWrittenIn 7 = .ok (.istore 5, 2) := by decide +kernel
theorem dX7_isWrittenIn_9 : decode cX7_isWrittenIn 9 = .ok (.iload_n 2, 1) := by decide +kernel
theorem dX7_isWrittenIn_10 : decode cX7_isWrittenIn 10 = .ok (.istore 6, 2) := by decide +kernel
theorem dX7_isWrittenIn_12 : decode cX7_isWrittenIn 12 = .ok (.iload 6, 2) := by decide +kernel
theorem dX7_isWrittenIn_14 : decode cX7_isWrittenIn 14 = .ok (.iload_n 3, 1) := by decide +kernel
theorem dX7_isWrittenIn_15 : decode cX7_isWrittenIn 15 = .ok (.if_icmp .ge 189, 3) := by decide +kernel
theorem dX7_isWrittenIn_18 : decode cX7_isWrittenIn 18 = .ok (.iload 6, 2) := by decide +kernel
theorem dX7_isWrittenIn_20 : decode cX7_isWrittenIn 20 = .ok (.aload_n 1, 1) := by decide +kernel
theorem dX7_isWrittenIn_21 : decode cX7_isWrittenIn 21 = .ok (.arraylength, 1) := by decide +kernel
theorem dX7_isWrittenIn_22 : decode cX7_isWrittenIn 22 = .ok (.if_icmp .ge 182, 3) := by decide +kernel
theorem dX7_isWrittenIn_25 : decode cX7_isWrittenIn 25 = .ok (.iload 5, 2) := by decide +kernel
theorem dX7_isWrittenIn_27 : decode cX7_isWrittenIn 27 = .ok (.aload_n 0, 1) := by decide +kernel
theorem dX7_isWrittenIn_28 : decode cX7_isWrittenIn 28 = .ok (.getfield 21, 3) := by decide +kernel
theorem dX7_isWrittenIn_31 : decode cX7_isWrittenIn 31 = .ok (.getfield 152, 3) := by decide +kernel
theorem dX7_isWrittenIn_34 : decode cX7_isWrittenIn 34 = .ok (.if_icmp .ge 170, 3) := by decide +kernel
theorem dX7_isWrittenIn_37 : decode cX7_isWrittenIn 37 = .ok (.aload_n 1, 1) := by decide +kernel
theorem dX7_isWrittenIn_38 : decode cX7_isWrittenIn 38 = .ok (.iload 6, 2) := by decide +kernel
theorem dX7_isWrittenIn_40 : decode cX7_isWrittenIn 40 = .ok (.iaload, 1) := by decide +kernel
theorem dX7_isWrittenIn_41 : decode cX7_isWrittenIn 41 = .ok (.bipush 15, 2) := by decide +kernel
theorem dX7_isWrittenIn_43 : decode cX7_isWrittenIn 43 = .ok (.iand, 1) := by decide +kernel
theorem dX7_isWrittenIn_44 : decode cX7_isWrittenIn 44 = .ok (.istore 7, 2) := by decide +kernel
theorem dX7_isWrittenIn_46 : decode cX7_isWrittenIn 46 = .ok (.aload_n 1, 1) := by decide +kernel
theorem dX7_isWrittenIn_47 : decode cX7_isWrittenIn 47 = .ok (.iload 6, 2) := by decide +kernel
theorem dX7_isWrittenIn_49 : decode cX7_isWrittenIn 49 = .ok (.iaload, 1) := by decide +kernel
theorem dX7_isWrittenIn_50 : decode cX7_isWrittenIn 50 = .ok (.bipush 15, 2) := by decide +kernel
theorem dX7_isWrittenIn_52 : decode cX7_isWrittenIn 52 = .ok (.ishr, 1) := by decide +kernel
theorem dX7_isWrittenIn_53 : decode cX7_isWrittenIn 53 = .ok (.istore 8, 2) := by decide +kernel
theorem dX7_isWrittenIn_55 : decode cX7_isWrittenIn 55 = .ok (.iconst 0, 1) := by decide +kernel
theorem dX7_isWrittenIn_56 : decode cX7_isWrittenIn 56 = .ok (.istore 9, 2) := by decide +kernel
theorem dX7_isWrittenIn_58 : decode cX7_isWrittenIn 58 = .ok (.iload 7, 2) := by decide +kernel
theorem dX7_isWrittenIn_60 : decode cX7_isWrittenIn 60 = .ok (.bipush 7, 2) := by decide +kernel
theorem dX7_isWrittenIn_62 : decode cX7_isWrittenIn 62 = .ok (.if_icmp .eq 17, 3) := by decide +kernel
theorem dX7_isWrittenIn_65 : decode cX7_isWrittenIn 65 = .ok (.iload 7, 2) := by decide +kernel
theorem dX7_isWrittenIn_67 : decode cX7_isWrittenIn 67 = .ok (.bipush 8, 2) := by decide +kernel
theorem dX7_isWrittenIn_69 : decode cX7_isWrittenIn 69 = .ok (.if_icmp .eq 10, 3) := by decide +kernel
theorem dX7_isWrittenIn_72 : decode cX7_isWrittenIn 72 = .ok (.iload 7, 2) := by decide +kernel
theorem dX7_isWrittenIn_74 : decode cX7_isWrittenIn 74 = .ok (.bipush 9, 2) := by decide +kernel
theorem dX7_isWrittenIn_76 : decode cX7_isWrittenIn 76 = .ok (.if_icmp .ne 7, 3) := by decide +kernel
theorem dX7_isWrittenIn_79 : decode cX7_isWrittenIn 79 = .ok (.iconst 1, 1) := by decide +kernel
theorem dX7_isWrittenIn_80 : decode cX7_isWrittenIn 80 = .ok (.goto 4, 3) := by decide +kernel
theorem dX7_isWrittenIn_83 : decode cX7_isWrittenIn 83 = .ok (.iconst 0, 1) := by decide +kernel
theorem dX7_isWrittenIn_84 : decode cX7_isWrittenIn 84 = .ok (.istore 10, 2) := by decide +kernel
theorem dX7_isWrittenIn_86 : decode cX7_isWrittenIn 86 = .ok (.iload 7, 2) := by decide +kernel
theorem dX7_isWrittenIn_88 : decode cX7_isWrittenIn 88 = .ok (.bipush 10, 2) := by decide +kernel
theorem dX7_isWrittenIn_90 : decode cX7_isWrittenIn 90 = .ok (.if_icmp .ne 31, 3) := by decide +kernel
theorem dX7_isWrittenIn_93 : decode cX7_isWrittenIn 93 = .ok (.iload 8, 2) := by decide +kernel
theorem dX7_isWrittenIn_95 : decode cX7_isWrittenIn 95 = .ok (.iload 4, 2) := by decide +kernel
theorem dX7_isWrittenIn_97 : decode cX7_isWrittenIn 97 = .ok (.if_icmp .ge 24, 3) := by decide +kernel
theorem dX7_isWrittenIn_100 : decode cX7_isWrittenIn 100 = .ok (.iconst 1, 1) := by decide +kernel
theorem dX7_isWrittenIn_101 : decode cX7_isWrittenIn 101 = .ok (.istore 10, 2) := by decide +kernel
theorem dX7_isWrittenIn_103 : decode cX7_isWrittenIn 103 = .ok (.aload_n 0, 1) := by decide +kernel
theorem dX7_isWrittenIn_104 : decode cX7_isWrittenIn 104 = .ok (.getfield 18, 3) := by decide +kernel
theorem dX7_isWrittenIn_107 : decode cX7_isWrittenIn 107 = .ok (.iload 8, 2) := by decide +kernel
theorem dX7_isWrittenIn_109 : decode cX7_isWrittenIn 109 = .ok (.iaload, 1) := by decide +kernel
theorem dX7_isWrittenIn_110 : decode cX7_isWrittenIn 110 = .ok (.istore 9, 2) := by decide +kernel
theorem dX7_isWrittenIn_112 : decode cX7_isWrittenIn 112 = .ok (.aload_n 0, 1) := by decide +kernel
theorem dX7_isWrittenIn_113 : decode cX7_isWrittenIn 113 = .ok (.getfield 15, 3) := by decide +kernel
theorem dX7_isWrittenIn_116 : decode cX7_isWrittenIn 116 = .ok (.iload 8, 2) := by decide +kernel
theorem dX7_isWrittenIn_118 : decode cX7_isWrittenIn 118 = .ok (.iaload, 1) := by decide +kernel
theorem dX7_isWrittenIn_119 : decode cX7_isWrittenIn 119 = .ok (.istore 8, 2) := by decide +kernel
theorem dX7_isWrittenIn_121 : decode cX7_isWrittenIn 121 = .ok (.iload 10, 2) := by decide +kernel
theorem dX7_isWrittenIn_123 : decode cX7_isWrittenIn 123 = .ok (.ifCond .eq 75, 3) := by decide +kernel
theorem dX7_isWrittenIn_126 : decode cX7_isWrittenIn 126 = .ok (.iload 8, 2) := by decide +kernel
theorem dX7_isWrittenIn_128 : decode cX7_isWrittenIn 128 = .ok (.aload_n 0, 1) := by decide +kernel
theorem dX7_isWrittenIn_129 : decode cX7_isWrittenIn 129 = .ok (.getfield 21, 3) := by decide +kernel
theorem dX7_isWrittenIn_132 : decode cX7_isWrittenIn 132 = .ok (.getfield 152, 3) := by decide +kernel
theorem dX7_isWrittenIn_135 : decode cX7_isWrittenIn 135 = .ok (.if_icmp .ge 63, 3) := by decide +kernel
theorem dX7_isWrittenIn_138 : decode cX7_isWrittenIn 138 = .ok (.aload_n 0, 1) := by decide +kernel
theorem dX7_isWrittenIn_139 : decode cX7_isWrittenIn 139 = .ok (.getfield 21, 3) := by decide +kernel
theorem dX7_isWrittenIn_142 : decode cX7_isWrittenIn 142 = .ok (.getfield 155, 3) := by decide +kernel
theorem dX7_isWrittenIn_145 : decode cX7_isWrittenIn 145 = .ok (.iload 8, 2) := by decide +kernel
theorem dX7_isWrittenIn_147 : decode cX7_isWrittenIn 147 = .ok (.laload, 1) := by decide +kernel
theorem dX7_isWrittenIn_148 : decode cX7_isWrittenIn 148 = .ok (.aload_n 0, 1) := by decide +kernel
theorem dX7_isWrittenIn_149 : decode cX7_isWrittenIn 149 = .ok (.getfield 21, 3) := by decide +kernel
theorem dX7_isWrittenIn_152 : decode cX7_isWrittenIn 152 = .ok (.getfield 155, 3) := by decide +kernel
theorem dX7_isWrittenIn_155 : decode cX7_isWrittenIn 155 = .ok (.iload 5, 2) := by decide +kernel
theorem dX7_isWrittenIn_157 : decode cX7_isWrittenIn 157 = .ok (.laload, 1) := by decide +kernel
theorem dX7_isWrittenIn_158 : decode cX7_isWrittenIn 158 = .ok (.lcmp, 1) := by decide +kernel
theorem dX7_isWrittenIn_159 : decode cX7_isWrittenIn 159 = .ok (.ifCond .ne 39, 3) := by decide +kernel
theorem dX7_isWrittenIn_162 : decode cX7_isWrittenIn 162 = .ok (.aload_n 0, 1) := by decide +kernel
theorem dX7_isWrittenIn_163 : decode cX7_isWrittenIn 163 = .ok (.getfield 21, 3) := by decide +kernel
theorem dX7_isWrittenIn_166 : decode cX7_isWrittenIn 166 = .ok (.getfield 159, 3) := by decide +kernel
theorem dX7_isWrittenIn_169 : decode cX7_isWrittenIn 169 = .ok (.iload 8, 2) := by decide +kernel
theorem dX7_isWrittenIn_171 : decode cX7_isWrittenIn 171 = .ok (.iaload, 1) := by decide +kernel
theorem dX7_isWrittenIn_172 : decode cX7_isWrittenIn 172 = .ok (.iload 9, 2) := by decide +kernel
theorem dX7_isWrittenIn_174 : decode cX7_isWrittenIn 174 = .ok (.iadd, 1) := by decide +kernel
theorem dX7_isWrittenIn_175 : decode cX7_isWrittenIn 175 = .ok (.aload_n 0, 1) := by decide +kernel
theorem dX7_isWrittenIn_176 : decode cX7_isWrittenIn 176 = .ok (.getfield 21, 3) := by decide +kernel
theorem dX7_isWrittenIn_179 : decode cX7_isWrittenIn 179 = .ok (.getfield 159, 3) := by decide +kernel
theorem dX7_isWrittenIn_182 : decode cX7_isWrittenIn 182 = .ok (.iload 5, 2) := by decide +kernel
theorem dX7_isWrittenIn_184 : decode cX7_isWrittenIn 184 = .ok (.iaload, 1) := by decide +kernel
theorem dX7_isWrittenIn_185 : decode cX7_isWrittenIn 185 = .ok (.aload_n 0, 1) := by decide +kernel
theorem dX7_isWrittenIn_186 : decode cX7_isWrittenIn 186 = .ok (.getfield 18, 3) := by decide +kernel
theorem dX7_isWrittenIn_189 : decode cX7_isWrittenIn 189 = .ok (.iload 4, 2) := by decide +kernel
theorem dX7_isWrittenIn_191 : decode cX7_isWrittenIn 191 = .ok (.iaload, 1) := by decide +kernel
theorem dX7_isWrittenIn_192 : decode cX7_isWrittenIn 192 = .ok (.iadd, 1) := by decide +kernel
theorem dX7_isWrittenIn_193 : decode cX7_isWrittenIn 193 = .ok (.if_icmp .ne 5, 3) := by decide +kernel
theorem dX7_isWrittenIn_196 : decode cX7_isWrittenIn 196 = .ok (.iconst 1, 1) := by decide +kernel
theorem dX7_isWrittenIn_197 : decode cX7_isWrittenIn 197 = .ok (.ireturn, 1) := by decide +kernel
theorem dX7_isWrittenIn_198 : decode cX7_isWrittenIn 198 = .ok (.iinc 6 1, 3) := by decide +kernel
theorem dX7_isWrittenIn_201 : decode cX7_isWrittenIn 201 = .ok (.goto (-189), 3) := by decide +kernel
theorem dX7_isWrittenIn_204 : decode cX7_isWrittenIn 204 = .ok (.iconst 0, 1) := by decide +kernel
theorem dX7_isWrittenIn_205 : decode cX7_isWrittenIn 205 = .ok (.ireturn, 1) := by decide +kernel
theorem dX7_pushTerm_0 : decode cX7_pushTerm 0 = .ok (.aload_n 1, 1) := by decide +kernel
theorem dX7_pushTerm_1 : decode cX7_pushTerm 1 = .ok (.iload_n 2, 1) := by decide +kernel
theorem dX7_pushTerm_2 : decode cX7_pushTerm 2 = .ok (.iaload, 1) := by decide +kernel
theorem dX7_pushTerm_3 : decode cX7_pushTerm 3 = .ok (.bipush 15, 2) := by decide +kernel
theorem dX7_pushTerm_5 : decode cX7_pushTerm 5 = .ok (.ishr, 1) := by decide +kernel
theorem dX7_pushTerm_6 : decode cX7_pushTerm 6 = .ok (.istore_n 3, 1) := by decide +kernel
theorem dX7_pushTerm_7 : decode cX7_pushTerm 7 = .ok (.aload_n 1, 1) := by decide +kernel
theorem dX7_pushTerm_8 : decode cX7_pushTerm 8 = .ok (.iload_n 2, 1) := by decide +kernel
theorem dX7_pushTerm_9 : decode cX7_pushTerm 9 = .ok (.iaload, 1) := by decide +kernel
theorem dX7_pushTerm_10 : decode cX7_pushTerm 10 = .ok (.bipush 15, 2) := by decide +kernel
theorem dX7_pushTerm_12 : decode cX7_pushTerm 12 = .ok (.iand, 1) := by decide +kernel
theorem dX7_pushTerm_13 : decode cX7_pushTerm 13 = .ok (.bipush 10, 2) := by decide +kernel
theorem dX7_pushTerm_15 : decode cX7_pushTerm 15 = .ok (.if_icmp .ne 34, 3) := by decide +kernel
theorem dX7_pushTerm_18 : decode cX7_pushTerm 18 = .ok (.iload_n 3, 1) := by decide +kernel
theorem dX7_pushTerm_19 : decode cX7_pushTerm 19 = .ok (.aload_n 0, 1) := by decide +kernel
theorem dX7_pushTerm_20 : decode cX7_pushTerm 20 = .ok (.getfield 15, 3) := by decide +kernel
theorem dX7_pushTerm_23 : decode cX7_pushTerm 23 = .ok (.arraylength, 1) := by decide +kernel
theorem dX7_pushTerm_24 : decode cX7_pushTerm 24 = .ok (.if_icmp .ge 24, 3) := by decide +kernel
theorem dX7_pushTerm_27 : decode cX7_pushTerm 27 = .ok (.aload_n 0, 1) := by decide +kernel
theorem dX7_pushTerm_28 : decode cX7_pushTerm 28 = .ok (.iconst 1, 1) := by decide +kernel
theorem dX7_pushTerm_29 : decode cX7_pushTerm 29 = .ok (.aload_n 0, 1) := by decide +kernel
theorem dX7_pushTerm_30 : decode cX7_pushTerm 30 = .ok (.getfield 15, 3) := by decide +kernel
theorem dX7_pushTerm_33 : decode cX7_pushTerm 33 = .ok (.iload_n 3, 1) := by decide +kernel
theorem dX7_pushTerm_34 : decode cX7_pushTerm 34 = .ok (.iaload, 1) := by decide +kernel
theorem dX7_pushTerm_35 : decode cX7_pushTerm 35 = .ok (.aload_n 0, 1) := by decide +kernel
theorem dX7_pushTerm_36 : decode cX7_pushTerm 36 = .ok (.getfield 18, 3) := by decide +kernel
theorem dX7_pushTerm_39 : decode cX7_pushTerm 39 = .ok (.iload_n 3, 1) := by decide +kernel
theorem dX7_pushTerm_40 : decode cX7_pushTerm 40 = .ok (.iaload, 1) := by decide +kernel
theorem dX7_pushTerm_41 : decode cX7_pushTerm 41 = .ok (.bipush 17, 2) := by decide +kernel
theorem dX7_pushTerm_43 : decode cX7_pushTerm 43 = .ok (.ishl, 1) := by decide +kernel
theorem dX7_pushTerm_44 : decode cX7_pushTerm 44 = .ok (.ior, 1) := by decide +kernel
theorem dX7_pushTerm_45 : decode cX7_pushTerm 45 = .ok (.invokevirtual 106, 3) := by decide +kernel
theorem dX7_pushTerm_48 : decode cX7_pushTerm 48 = .ok (.return_, 1) := by decide +kernel
theorem dX7_pushTerm_49 : decode cX7_pushTerm 49 = .ok (.aload_n 1, 1) := by decide +kernel
theorem dX7_pushTerm_50 : decode cX7_pushTerm 50 = .ok (.iload_n 2, 1) := by decide +kernel
theorem dX7_pushTerm_51 : decode cX7_pushTerm 51 = .ok (.iaload, 1) := by decide +kernel
theorem dX7_pushTerm_52 : decode cX7_pushTerm 52 = .ok (.iconst 4, 1) := by decide +kernel
theorem dX7_pushTerm_53 : decode cX7_pushTerm 53 = .ok (.ishr, 1) := by decide +kernel
theorem dX7_pushTerm_54 : decode cX7_pushTerm 54 = .ok (.sipush 2047, 3) := by decide +kernel
theorem dX7_pushTerm_57 : decode cX7_pushTerm 57 = .ok (.iand, 1) := by decide +kernel
theorem dX7_pushTerm_58 : decode cX7_pushTerm 58 = .ok (.istore 4, 2) := by decide +kernel
theorem dX7_pushTerm_60 : decode cX7_pushTerm 60 = .ok (.iload 4, 2) := by decide +kernel
theorem dX7_pushTerm_62 : decode cX7_pushTerm 62 = .ok (.ifCond .le 10, 3) := by decide +kernel
theorem dX7_pushTerm_65 : decode cX7_pushTerm 65 = .ok (.aload_n 0, 1) := by decide +kernel
theorem dX7_pushTerm_66 : decode cX7_pushTerm 66 = .ok (.iconst 0, 1) := by decide +kernel
theorem dX7_pushTerm_67 : decode cX7_pushTerm 67 = .ok (.bipush 16, 2) := by decide +kernel
theorem dX7_pushTerm_69 : decode cX7_pushTerm 69 = .ok (.invokevirtual 106, 3) := by decide +kernel
theorem dX7_pushTerm_72 : decode cX7_pushTerm 72 = .ok (.iload 4, 2) := by decide +kernel
theorem dX7_pushTerm_74 : decode cX7_pushTerm 74 = .ok (.istore 5, 2) := by decide +kernel
theorem dX7_pushTerm_76 : decode cX7_pushTerm 76 = .ok (.iload 5, 2) := by decide +kernel
theorem dX7_pushTerm_78 : decode cX7_pushTerm 78 = .ok (.ifCond .le 65, 3) := by decide +kernel
theorem dX7_pushTerm_81 : decode cX7_pushTerm 81 = .ok (.iload_n 2, 1) := by decide +kernel
theorem dX7_pushTerm_82 : decode cX7_pushTerm 82 = .ok (.iconst 1, 1) := by decide +kernel
theorem dX7_pushTerm_83 : decode cX7_pushTerm 83 = .ok (.iadd, 1) := by decide +kernel
theorem dX7_pushTerm_84 : decode cX7_pushTerm 84 = .ok (.istore 6, 2) := by decide +kernel
theorem dX7_pushTerm_86 : decode cX7_pushTerm 86 = .ok (.iconst 1, 1) := by decide +kernel
theorem dX7_pushTerm_87 : decode cX7_pushTerm 87 = .ok (.istore 7, 2) := by decide +kernel
theorem dX7_pushTerm_89 : decode cX7_pushTerm 89 = .ok (.iload 7, 2) := by decide +kernel
theorem dX7_pushTerm_91 : decode cX7_pushTerm 91 = .ok (.iload 5, 2) := by decide +kernel
theorem dX7_pushTerm_93 : decode cX7_pushTerm 93 = .ok (.if_icmp .ge 19, 3) := by decide +kernel
theorem dX7_pushTerm_96 : decode cX7_pushTerm 96 = .ok (.aload_n 1, 1) := by decide +kernel
theorem dX7_pushTerm_97 : decode cX7_pushTerm 97 = .ok (.iload 6, 2) := by decide +kernel
theorem dX7_pushTerm_99 : decode cX7_pushTerm 99 = .ok (.aload_n 1, 1) := by decide +kernel
theorem dX7_pushTerm_100 : decode cX7_pushTerm 100 = .ok (.arraylength, 1) := by decide +kernel
theorem dX7_pushTerm_101 : decode cX7_pushTerm 101 = .ok (.invokestatic 144, 3) := by decide +kernel
theorem dX7_pushTerm_104 : decode cX7_pushTerm 104 = .ok (.istore 6, 2) := by decide +kernel
theorem dX7_pushTerm_106 : decode cX7_pushTerm 106 = .ok (.iinc 7 1, 3) := by decide +kernel
theorem dX7_pushTerm_109 : decode cX7_pushTerm 109 = .ok (.goto (-20), 3) := by decide +kernel
theorem dX7_pushTerm_112 : decode cX7_pushTerm 112 = .ok (.aload_n 0, 1) := by decide +kernel
theorem dX7_pushTerm_113 : decode cX7_pushTerm 113 = .ok (.iconst 2, 1) := by decide +kernel
theorem dX7_pushTerm_114 : decode cX7_pushTerm 114 = .ok (.iload 6, 2) := by decide +kernel
theorem dX7_pushTerm_116 : decode cX7_pushTerm 116 = .ok (.invokevirtual 106, 3) := by decide +kernel
theorem dX7_pushTerm_119 : decode cX7_pushTerm 119 = .ok (.aload_n 0, 1) := by decide +kernel
theorem dX7_pushTerm_120 : decode cX7_pushTerm 120 = .ok (.iconst 0, 1) := by decide +kernel
theorem dX7_pushTerm_121 : decode cX7_pushTerm 121 = .ok (.iload 5, 2) := by decide +kernel
theorem dX7_pushTerm_123 : decode cX7_pushTerm 123 = .ok (.iconst 1, 1) := by decide +kernel
theorem dX7_pushTerm_124 : decode cX7_pushTerm 124 = .ok (.if_icmp .le 8, 3) := by decide +kernel
theorem dX7_pushTerm_127 : decode cX7_pushTerm 127 = .ok (.bipush 18, 2) := by decide +kernel
theorem dX7_pushTerm_129 : decode cX7_pushTerm 129 = .ok (.goto 5, 3) := by decide +kernel
theorem dX7_pushTerm_132 : decode cX7_pushTerm 132 = .ok (.bipush 17, 2) := by decide +kernel
theorem dX7_pushTerm_134 : decode cX7_pushTerm 134 = .ok (.invokevirtual 106, 3) := by decide +kernel
theorem dX7_pushTerm_137 : decode cX7_pushTerm 137 = .ok (.iinc 5 (-1), 3) := by decide +kernel
theorem dX7_pushTerm_140 : decode cX7_pushTerm 140 = .ok (.goto (-64), 3) := by decide +kernel
theorem dX7_pushTerm_143 : decode cX7_pushTerm 143 = .ok (.aload_n 0, 1) := by decide +kernel
theorem dX7_pushTerm_144 : decode cX7_pushTerm 144 = .ok (.iconst 1, 1) := by decide +kernel
theorem dX7_pushTerm_145 : decode cX7_pushTerm 145 = .ok (.iload_n 3, 1) := by decide +kernel
theorem dX7_pushTerm_146 : decode cX7_pushTerm 146 = .ok (.invokevirtual 106, 3) := by decide +kernel
theorem dX7_pushTerm_149 : decode cX7_pushTerm 149 = .ok (.return_, 1) := by decide +kernel
def EX7_push : List (Nat × Nat) := [(9, 2), (182, 0)]
def EX7_pushJoined : List (Nat × Nat) := [(9, 2), (182, 0)]
def EX7_pushTerm : List (Nat × Nat) := [(9, 2), (182, 0)]
def EX7_isWrittenIn : List (Nat × Nat) := []
def EX7_pushQuantified : List (Nat × Nat) := [(9, 2), (182, 0), (183, 0), (184, 0)]
set_option maxHeartbeats 4000000 in
set_option maxRecDepth 20000 in
theorem uX7_push (l : Launch) (dC : Nat → ClassId) (dI : Nat → Nat → Nat) (ca : Nat → ClassId) (base : Nat) (B : jF) (hB : jBok B) (hAp : jAp (dC, dI)) (hB9 : ∀ n G a H, B 9 n G a H ↔ jOb (dC, dI) 9 5 (F9 n G) a H) (hB182 : ∀ n G a H, B 182 n G a H ↔ jAr (dC, dI) (ca 1) (fun j z => True) n a H) (G0 : jT) (H0 : Heap) (r0 : Nat) (a1 : Int32) (a2 : Int32) : Met l yX7_push (jw yX7_push cX7_push 3 none) ({ frames := 0, cells := 0, slots := 0, locals := 0 }) (va_Pc [.ref r0, .int a1, .int a2] (fun U => U.heap = H0 ∧ jX B base G0 [] H0 ∧ jG dC dI ca base U ∧ G0 r0 = some (9, 0) ∧ jP (dC, dI) G0 H0 [] ∧ True)) (va_Qv (S := Unit) (fun u => True) (fun u t => jRt (dC, dI) B base G0 EX7_push H0 [] t.heap) (jA base)) 0 0 (jA base) := by
  refine Met.ofW (cc := cX7_push) (maxL := 3) (ret := none) (by decide) rfl ?_
  intro p e s m args below meth c s₁ Bd hml hv
  obtain ⟨rfl, hH0, hX, hG, hg_r0, hP0, hp0⟩ := hv
  have hK := hG.1
  have hx := Bd.exec
  have hb := Bd.bytes
  have hr := Bd.returns
  have hts := atoms_spec (ws := (jw yX7_push cX7_push 3 none)) Bd.pre
  have htw : ∀ w ∈ jWl, w.before _ s = true := fun w h => hts w (List.mem_cons_of_mem _ h)
  have hown : s.vm.findClass RX7 = some m.cls := findClass_of_methodNamed Bd.named
  have hlocks := Bd.notSynchronized
  obtain ⟨Q, hQ⟩ : ∃ Q, Q = MQ below (va_Qv (S := Unit) (fun u => True) (fun u t => jRt (dC, dI) B base G0 EX7_push H0 [] t.heap) (jA base)) ([.ref r0, .int a1, .int a2] : List Value).toArray s 0 0 (jA base) := ⟨_, rfl⟩
  rw [← hQ]
  have hl := lv_entry ([.ref r0, .int a1, .int a2]) (n := 3) (Nat.le_of_ble_eq_true rfl)
  rw [lg_entry_eq]
  generalize (lg_sl ([.ref r0, .int a1, .int a2]) ++ List.replicate (3 - (lg_sl ([.ref r0, .int a1, .int a2])).length) Slot.unset).toArray = ls at hl ⊢
  have hl : lv_has ls 3 [(0, .ref r0), (1, .int a1), (2, .int a2)] := hl
  generalize hR : (headSpec (jw yX7_push cX7_push 3 none) ({ frames := 0, cells := 0, slots := 0, locals := 0 })).room = R
  subst hH0
  have hh : jSt (dC, dI) B base G0 G0 EX7_push s.heap 0 0 [] [] [] s.heap [] := jSt.start hX hP0 jMc.nil jIs.nil
  clear hX hP0
  have hk0 : (0 : Int32).toInt = 0 := by decide
  have hk1 : (1 : Int32).toInt = 1 := by decide
  have hk2 : (2 : Int32).toInt = 2 := by decide
  have hly_9_1 := htw (u_lay RX7 TX7 1) (jWc_wsX70 _ (u_in_lay (by decide)))
  have hly_9_2 := htw (u_lay RX7 TX7 2) (jWc_wsX70 _ (u_in_lay (by decide)))
  have hlk_103 := (htw (.fieldLink RX7 103 "ProofServer$Printer" "height" "I") (jWr_31 _ (List.mem_of_getElem? (i := 7) rfl)))
  have hlk_11 := (htw (.fieldLink RX7 11 "ProofServer$Printer" "stack" "[I") (jWr_9 _ (List.mem_of_getElem? (i := 7) rfl)))
  have hrg_a1 := jb_rng a1
  have hrg_a2 := jb_rng a2
  refine lv_aload_n hx hb dX7_push_0 rfl (lv_at hl 0 rfl) ?_
  obtain ⟨v_1, hv_1, hh_2⟩ := hh.pin (C := RX7) (T := TX7) (N := 5) hB9 rfl (by decide) hg_r0 (i := 2) (by decide) rfl
  clear hh
  obtain ⟨height_3, rfl, hloheight_3, hhiheight_3⟩ := hv_1
  refine j7_read hx hb hown hK (C := RX7) (T := TX7) (N := 5) rfl hly_9_2 hlk_103 (hh_2.at 0 rfl) dX7_push_1 ?_
  refine lv_aload_n hx hb dX7_push_4 rfl (lv_at hl 0 rfl) ?_
  obtain ⟨v_4, hv_4, hh_5⟩ := hh_2.pin (C := RX7) (T := TX7) (N := 5) hB9 rfl (by decide) hg_r0 (i := 1) (by decide) rfl
  clear hh_2
  obtain ⟨stack_6, rfl, hg_stack_6⟩ := hv_4
  refine j7_read hx hb hown hK (C := RX7) (T := TX7) (N := 5) rfl hly_9_1 hlk_11 (hh_5.at 0 rfl) dX7_push_5 ?_
  refine j7_len hx hb hK hh_5 hB182 1 rfl (by decide) hg_stack_6 (by omega) dX7_push_8 (fun z_7 hz_7 => ?_)
  refine lv_icmp_ge (tgt := 36) hx hb dX7_push_9 (by decide) (fun c_8 => ?_) (fun c_8 => ?_)
  · skip
    have c_8' : height_3.toInt ≥ z_7.toInt := jb_ge (rfl) (rfl) c_8
    rw [hQ]
    exact W.vret hx hb hr (fun t ht hW => ⟨⟨(), rfl, trivial, hh_5.rt (M1 := []) [] rfl ht⟩, by rw [ht]; try exact hh_5.1.1, fun q h9 hq => by rw [ht]; try exact hh_5.1.2.1 q h9 hq⟩) hh_5.1.2.2 dX7_push_36
  · skip
    have c_8' : height_3.toInt < z_7.toInt := jb_ge_n (rfl) (rfl) c_8
    refine lv_aload_n hx hb dX7_push_12 rfl (lv_at hl 0 rfl) ?_
    refine j7_read hx hb hown hK (C := RX7) (T := TX7) (N := 5) rfl hly_9_1 hlk_11 (hh_5.at 0 rfl) dX7_push_13 ?_
    refine lv_aload_n hx hb dX7_push_16 rfl (lv_at hl 0 rfl) ?_
    refine j7_read hx hb hown hK (C := RX7) (T := TX7) (N := 5) rfl hly_9_2 hlk_103 (hh_5.at 1 rfl) dX7_push_17 ?_
    refine lv_iload_n hx hb dX7_push_20 rfl (lv_at hl 2 rfl) ?_
    refine lv_iconst (v := 2) hx hb dX7_push_21 (by decide) ?_
    refine lv_ishl hx hb dX7_push_22 ?_
    refine lv_topi (fun z_9 ez_9 => ?_)
    refine lv_iload_n hx hb dX7_push_23 rfl (lv_at hl 1 rfl) ?_
    refine lv_ior hx hb dX7_push_24 ?_
    refine lv_topi (fun z_10 ez_10 => ?_)
    refine j7_iast hx hb hK hh_5 hB hB182 1 rfl (by decide) (by decide) rfl rfl rfl hg_stack_6 (x := height_3.toInt) (rfl) (by omega) (trivial) dX7_push_25 (fun H_11 locs_11 hh_11 => ?_)
    clear hh_5
    refine lv_aload_n hx hb dX7_push_26 rfl (lv_at hl 0 rfl) ?_
    refine lv_dup hx hb dX7_push_27 rfl ?_
    refine j7_read hx hb hown hK (C := RX7) (T := TX7) (N := 5) rfl hly_9_2 hlk_103 (hh_11.at 1 rfl) dX7_push_28 ?_
    refine lv_iconst (v := 1) hx hb dX7_push_31 (by decide) ?_
    refine lv_iadd hx hb dX7_push_32 ?_
    refine lv_topi (fun z_12 ez_12 => ?_)
    have hz_12 : z_12.toInt = height_3.toInt + 1 := by rw [ez_12]; exact jb_iadd2 (rfl) ((by decide)) (by omega)
    refine j7_put hx hb hown hK hh_11 hB hAp hB9 (C := RX7) (T := TX7) (N := 5) rfl (by decide) hg_r0 (i := 2) (by decide) hly_9_2 rfl hlk_103 rfl (ty := .int) (v := .int z_12) (by decide +kernel) rfl rfl (⟨_, rfl, by omega, by omega⟩) rfl (L1 := [(r0, 9, 1, .ref stack_6)]) [0] rfl rfl rfl dX7_push_33 (fun H_13 locs_13 hh_13 => ?_)
    clear hh_11
    rw [hQ]
    exact W.vret hx hb hr (fun t ht hW => ⟨⟨(), rfl, trivial, hh_13.rt (M1 := []) [] rfl ht⟩, by rw [ht]; try exact hh_13.1.1, fun q h9 hq => by rw [ht]; try exact hh_13.1.2.1 q h9 hq⟩) hh_13.1.2.2 dX7_push_36
set_option maxHeartbeats 4000000 in
set_option maxRecDepth 20000 in
theorem uX7_pushJoined (l : Launch) (dC : Nat → ClassId) (dI : Nat → Nat → Nat) (ca : Nat → ClassId) (base : Nat) (B : jF) (hB : jBok B) (hAp : jAp (dC, dI)) (hB9 : ∀ n G a H, B 9 n G a H ↔ jOb (dC, dI) 9 5 (F9 n G) a H) (hB180 : ∀ n G a H, B 180 n G a H ↔ jAr (dC, dI) (ca 1) (fun j z => 0 ≤ z.toInt) n a H) (hB182 : ∀ n G a H, B 182 n G a H ↔ jAr (dC, dI) (ca 1) (fun j z => True) n a H) (G0 : jT) (H0 : Heap) (r0 : Nat) (r1 : Nat) (a2 : Int32) (a3 : Int32) (n1 : Nat) : Met l yX7_pushJoined (jw yX7_pushJoined cX7_pushJoined 11 none) ({ frames := 1, cells := 0, slots := 0, locals := 25 }) (va_Pc [.ref r0, .ref r1, .int a2, .int a3] (fun U => U.heap = H0 ∧ jX B base G0 [] H0 ∧ jG dC dI ca base U ∧ G0 r1 = some (180, n1) ∧ G0 r0 = some (9, 0) ∧ jP (dC, dI) G0 H0 [] ∧ 0 ≤ a2.toInt ∧ a2.toInt < n1 ∧ n1 ≤ 100000)) (va_Qv (S := Unit) (fun u => True) (fun u t => jRt (dC, dI) B base G0 EX7_pushJoined H0 [] t.heap) (jA base)) 0 0 (jA base) := by
  refine Met.ofW (cc := cX7_pushJoined) (maxL := 11) (ret := none) (by decide) rfl ?_
  intro p e s m args below meth c s₁ Bd hml hv
  obtain ⟨rfl, hH0, hX, hG, hg_r1, hg_r0, hP0, hp0, hp1, hp2⟩ := hv
  have hK := hG.1
  have hx := Bd.exec
  have hb := Bd.bytes
  have hr := Bd.returns
  have hts := atoms_spec (ws := (jw yX7_pushJoined cX7_pushJoined 11 none)) Bd.pre
  have htw : ∀ w ∈ jWl, w.before _ s = true := fun w h => hts w (List.mem_cons_of_mem _ h)
  have hown : s.vm.findClass RX7 = some m.cls := findClass_of_methodNamed Bd.named
  have hlocks := Bd.notSynchronized
  obtain ⟨Q, hQ⟩ : ∃ Q, Q = MQ below (va_Qv (S := Unit) (fun u => True) (fun u t => jRt (dC, dI) B base G0 EX7_pushJoined H0 [] t.heap) (jA base)) ([.ref r0, .ref r1, .int a2, .int a3] : List Value).toArray s 0 0 (jA base) := ⟨_, rfl⟩
  rw [← hQ]
  have hl := lv_entry ([.ref r0, .ref r1, .int a2, .int a3]) (n := 11) (Nat.le_of_ble_eq_true rfl)
  rw [lg_entry_eq]
  generalize (lg_sl ([.ref r0, .ref r1, .int a2, .int a3]) ++ List.replicate (11 - (lg_sl ([.ref r0, .ref r1, .int a2, .int a3])).length) Slot.unset).toArray = ls at hl ⊢
  have hl : lv_has ls 11 [(0, .ref r0), (1, .ref r1), (2, .int a2), (3, .int a3)] := hl
  generalize hR : (headSpec (jw yX7_pushJoined cX7_pushJoined 11 none) ({ frames := 1, cells := 0, slots := 0, locals := 25 })).room = R
  subst hH0
  have hh : jSt (dC, dI) B base G0 G0 EX7_pushJoined s.heap 0 0 [] [] [] s.heap [] := jSt.start hX hP0 jMc.nil jIs.nil
  clear hX hP0
  have hkm257 : ((-257) : Int32).toInt = (-257) := by decide
  have hk0 : (0 : Int32).toInt = 0 := by decide
  have hk1 : (1 : Int32).toInt = 1 := by decide
  have hk2 : (2 : Int32).toInt = 2 := by decide
  have hk3 : (3 : Int32).toInt = 3 := by decide
  have hk15 : (15 : Int32).toInt = 15 := by decide
  have hk512 : (512 : Int32).toInt = 512 := by decide
  have hrg_a2 := jb_rng a2
  have hrg_a3 := jb_rng a3
  refine lv_iload_n hx hb dX7_pushJoined_0 rfl (lv_at hl 2 rfl) ?_
  refine lv_iconst (v := 1) hx hb dX7_pushJoined_1 (by decide) ?_
  refine lv_iadd hx hb dX7_pushJoined_2 ?_
  refine lv_topi (fun z_1 ez_1 => ?_)
  have hz_1 : z_1.toInt = a2.toInt + 1 := by rw [ez_1]; exact jb_iadd2 (rfl) ((by decide)) (by omega)
  refine lv_istore (lv' := [(4, .int z_1), (0, .ref r0), (1, .ref r1), (2, .int a2), (3, .int a3)]) hx hb dX7_pushJoined_3 hl (by decide) rfl (fun ls hl => ?_)
  refine lv_aload_n hx hb dX7_pushJoined_5 rfl (lv_at hl 2 rfl) ?_
  refine lv_iload hx hb dX7_pushJoined_6 (lv_at hl 0 rfl) ?_
  refine lv_aload_n hx hb dX7_pushJoined_8 rfl (lv_at hl 2 rfl) ?_
  refine j7_len hx hb hK hh hB180 1 rfl (by decide) hg_r1 (by omega) dX7_pushJoined_9 (fun z_2 hz_2 => ?_)
  refine va_calli (A0 := jA base) (H0 := s.heap) (va_runSN (As := [.ref r1, .int z_1, .int z_2]) (rest := []) ⟨hx, hb, hml, hown, hts⟩ (uX11_endOf l dC dI ca base B hB hAp hB180 G0 s.heap r1 z_1 z_2 n1) ⟨va_cnB 3 hts (jgW (jWr_32 _ (List.mem_of_getElem? (i := 4) rfl))) rfl rfl rfl (hG.2.2.1 RX7 144 yX11_endOf "ProofServer" (List.mem_of_getElem? (i := 994) (by decide +kernel))) (htw (.initialized RX11) (jWr_1 _ (List.mem_of_getElem? (i := 2) rfl))) (by decide +kernel) ⟨by rw [← hR]; exact Nat.le_of_ble_eq_true rfl, by rw [← hR]; exact Nat.le_of_ble_eq_true rfl⟩, htw (.static yX11_endOf) (jWr_32 _ (List.mem_of_getElem? (i := 3) rfl)), trivial⟩ ⟨fun a U g mk q => by obtain ⟨q0, q1, q2, qK, q10, q11, q12⟩ := q; exact ⟨q0, q1, q2, jG.calling g mk a qK, q10, q11, q12⟩, fun U hU hW => ⟨rfl, hU, hh.2.1, hG.step hW hU hh.1, hg_r1, jP.nil, by first | omega | (refine ⟨?_, ?_, ?_⟩ <;> (first | omega | rfl | assumption | decide | exact Or.inl rfl | exact Or.inr rfl | (simp only; omega)))⟩⟩ rfl rfl hl.1 rfl (lv_room (Nat.le_of_ble_eq_true rfl)) dX7_pushJoined_10 ⟨Nat.zero_le _, Nat.zero_le _⟩) hh.1 (fun q _ h => h) (fun q h => h) (fun r_4 u_3 t_3 H_3 locs_3 ht_3 hvm_3 hr_4 hb_3 hz_3 hk_3 hS_3 => ?_)
  rw [ht_3] at hb_3
  obtain ⟨hb_31, hb_32, hb_33, hb_34, hb_35⟩ := hb_3
  have hh_3 : jSt (dC, dI) B base G0 G0 EX7_pushJoined s.heap 0 0 [] [] [] H_3 locs_3 := ((hh.call hb_31 hb_32 hb_33 hb_34 hS_3 rfl (L1 := []) [] rfl rfl (M1 := []) [] rfl rfl (I1 := []) [] rfl rfl).more hb_35)
  clear hh ht_3 hvm_3 hz_3 hk_3 hS_3 hb_31 hb_32 hb_33 hb_34 hb_35
  obtain ⟨hr_4_0, hr_4_1⟩ := hr_4
  refine lv_istore (lv' := [(5, .int r_4), (4, .int z_1), (0, .ref r0), (1, .ref r1), (2, .int a2), (3, .int a3)]) hx hb dX7_pushJoined_13 hl (by decide) rfl (fun ls hl => ?_)
  refine lv_iload hx hb dX7_pushJoined_15 (lv_at hl 0 rfl) ?_
  refine lv_aload_n hx hb dX7_pushJoined_17 rfl (lv_at hl 3 rfl) ?_
  refine j7_len hx hb hK hh_3 hB180 1 rfl (by decide) hg_r1 (by omega) dX7_pushJoined_18 (fun z_5 hz_5 => ?_)
  refine lv_icmp_lt (tgt := 23) hx hb dX7_pushJoined_19 (by decide) (fun c_6 => ?_) (fun c_6 => ?_)
  · skip
    have c_6' : r_4.toInt < z_5.toInt := jb_lt (rfl) (rfl) c_6
    first | (have hr_4_1q := hr_4_1.resolve_left (by omega); clear hr_4_1) | (have hr_4_1q := hr_4_1.resolve_right (by omega); clear hr_4_1) | skip
    refine lv_aload_n hx hb dX7_pushJoined_23 rfl (lv_at hl 3 rfl) ?_
    refine lv_iload_n hx hb dX7_pushJoined_24 rfl (lv_at hl 4 rfl) ?_
    refine j7_iald hx hb hK hh_3 hB180 1 rfl (by decide) hg_r1 (x := a2.toInt) (rfl) (by omega) dX7_pushJoined_25 (fun z_7 (hz_7 : 0 ≤ z_7.toInt) => ?_)
    refine lv_bipush (v := 15) hx hb dX7_pushJoined_26 (by decide) ?_
    refine lv_iand hx hb dX7_pushJoined_28 ?_
    refine lv_topi (fun z_8 ez_8 => ?_)
    have hz_8 : 0 ≤ z_8.toInt ∧ z_8.toInt ≤ 15 := by rw [ez_8]; exact jb_and z_7 (m := 15) (k := 4) (by decide) (by decide)
    refine lv_istore (lv' := [(6, .int z_8), (5, .int r_4), (4, .int z_1), (0, .ref r0), (1, .ref r1), (2, .int a2), (3, .int a3)]) hx hb dX7_pushJoined_29 hl (by decide) rfl (fun ls hl => ?_)
    refine lv_aload_n hx hb dX7_pushJoined_31 rfl (lv_at hl 4 rfl) ?_
    refine lv_iload hx hb dX7_pushJoined_32 (lv_at hl 2 rfl) ?_
    refine j7_iald hx hb hK hh_3 hB180 1 rfl (by decide) hg_r1 (x := z_1.toInt) (rfl) (by omega) dX7_pushJoined_34 (fun z_9 (hz_9 : 0 ≤ z_9.toInt) => ?_)
    refine lv_bipush (v := 15) hx hb dX7_pushJoined_35 (by decide) ?_
    refine lv_iand hx hb dX7_pushJoined_37 ?_
    refine lv_topi (fun z_10 ez_10 => ?_)
    have hz_10 : 0 ≤ z_10.toInt ∧ z_10.toInt ≤ 15 := by rw [ez_10]; exact jb_and z_9 (m := 15) (k := 4) (by decide) (by decide)
    refine lv_istore (lv' := [(7, .int z_10), (6, .int z_8), (5, .int r_4), (4, .int z_1), (0, .ref r0), (1, .ref r1), (2, .int a2), (3, .int a3)]) hx hb dX7_pushJoined_38 hl (by decide) rfl (fun ls hl => ?_)
    refine lv_aload_n hx hb dX7_pushJoined_40 rfl (lv_at hl 5 rfl) ?_
    refine lv_iload hx hb dX7_pushJoined_41 (lv_at hl 2 rfl) ?_
    refine j7_iald hx hb hK hh_3 hB180 1 rfl (by decide) hg_r1 (x := r_4.toInt) (rfl) (by omega) dX7_pushJoined_43 (fun z_11 (hz_11 : 0 ≤ z_11.toInt) => ?_)
    refine lv_bipush (v := 15) hx hb dX7_pushJoined_44 (by decide) ?_
    refine lv_iand hx hb dX7_pushJoined_46 ?_
    refine lv_topi (fun z_12 ez_12 => ?_)
    have hz_12 : 0 ≤ z_12.toInt ∧ z_12.toInt ≤ 15 := by rw [ez_12]; exact jb_and z_11 (m := 15) (k := 4) (by decide) (by decide)
    refine lv_istore (lv' := [(8, .int z_12), (7, .int z_10), (6, .int z_8), (5, .int r_4), (4, .int z_1), (0, .ref r0), (1, .ref r1), (2, .int a2), (3, .int a3)]) hx hb dX7_pushJoined_47 hl (by decide) rfl (fun ls hl => ?_)
    refine lv_iload hx hb dX7_pushJoined_49 (lv_at hl 1 rfl) ?_
    refine lv_iconst (v := 1) hx hb dX7_pushJoined_51 (by decide) ?_
    have C84 : ∀ (w0_13 : Int32) (H_13 : Heap) (locs_13 : List Loc), jSt (dC, dI) B base G0 G0 EX7_pushJoined s.heap 0 0 [] [] [] H_13 locs_13 → (w0_13 = 0 ∨ w0_13 = 1) → (True) → ∀ ls : Array Slot, lv_has ls 11 [(0, .ref r0), (1, .ref r1), (2, .int a2), (3, .int a3), (4, .int z_1), (5, .int r_4), (6, .int z_8), (7, .int z_10), (8, .int z_12)] → W p l e R s m ([.ref r0, .ref r1, .int a2, .int a3] : List Value).toArray below meth c H_13 locs_13 0 0 Q (F0 m 84 ls [.int w0_13]) := by
      intro w0_13 H_13 locs_13 hh_13 hb_w0_13 hi_13 ls hl
      have hb_w0_13' := jb_01 hb_w0_13
      try clear hr_4_1
      refine lv_istore (lv' := [(9, .int w0_13), (0, .ref r0), (1, .ref r1), (2, .int a2), (3, .int a3), (4, .int z_1), (5, .int r_4), (6, .int z_8), (7, .int z_10), (8, .int z_12)]) hx hb dX7_pushJoined_84 hl (by decide) rfl (fun ls hl => ?_)
      refine lv_iload hx hb dX7_pushJoined_86 (lv_at hl 9 rfl) ?_
      refine lv_iconst (v := 1) hx hb dX7_pushJoined_88 (by decide) ?_
      have C115 : ∀ (w0_14 : Int32) (H_14 : Heap) (locs_14 : List Loc), jSt (dC, dI) B base G0 G0 EX7_pushJoined s.heap 0 0 [] [] [] H_14 locs_14 → (w0_14 = 0 ∨ w0_14 = 1) → (True) → ∀ ls : Array Slot, lv_has ls 11 [(0, .ref r0), (1, .ref r1), (2, .int a2), (3, .int a3), (4, .int z_1), (5, .int r_4), (6, .int z_8), (7, .int z_10), (8, .int z_12), (9, .int w0_13)] → W p l e R s m ([.ref r0, .ref r1, .int a2, .int a3] : List Value).toArray below meth c H_14 locs_14 0 0 Q (F0 m 115 ls [.int w0_14]) := by
        intro w0_14 H_14 locs_14 hh_14 hb_w0_14 hi_14 ls hl
        have hb_w0_14' := jb_01 hb_w0_14
        refine lv_istore (lv' := [(10, .int w0_14), (0, .ref r0), (1, .ref r1), (2, .int a2), (3, .int a3), (4, .int z_1), (5, .int r_4), (6, .int z_8), (7, .int z_10), (8, .int z_12), (9, .int w0_13)]) hx hb dX7_pushJoined_115 hl (by decide) rfl (fun ls hl => ?_)
        refine lv_aload_n hx hb dX7_pushJoined_117 rfl (lv_at hl 1 rfl) ?_
        refine lv_iconst (v := 2) hx hb dX7_pushJoined_118 (by decide) ?_
        refine lv_iload hx hb dX7_pushJoined_119 (lv_at hl 6 rfl) ?_
        refine lv_iload_n hx hb dX7_pushJoined_121 rfl (lv_at hl 4 rfl) ?_
        refine lv_ior hx hb dX7_pushJoined_122 ?_
        refine lv_topi (fun z_15 ez_15 => ?_)
        refine lv_iload hx hb dX7_pushJoined_123 (lv_at hl 0 rfl) ?_
        have C135 : ∀ (w0_16 : Int32) (H_16 : Heap) (locs_16 : List Loc), jSt (dC, dI) B base G0 G0 EX7_pushJoined s.heap 0 0 [] [] [] H_16 locs_16 → (True) → ∀ ls : Array Slot, lv_has ls 11 [(0, .ref r0), (1, .ref r1), (2, .int a2), (3, .int a3), (4, .int z_1), (5, .int r_4), (6, .int z_8), (7, .int z_10), (8, .int z_12), (9, .int w0_13), (10, .int w0_14)] → W p l e R s m ([.ref r0, .ref r1, .int a2, .int a3] : List Value).toArray below meth c H_16 locs_16 0 0 Q (F0 m 135 ls [.int w0_16, .int z_15, .int 2, .ref r0]) := by
          intro w0_16 H_16 locs_16 hh_16  hi_16 ls hl
          refine lv_ior hx hb dX7_pushJoined_135 ?_
          refine lv_topi (fun z_17 ez_17 => ?_)
          refine va_callv (A0 := jA base) (H0 := s.heap) (va_runV (As := [.int 2, .int z_17]) (rest := []) ⟨hx, hb, hml, hown, hts⟩ (uX7_push l dC dI ca base B hB hAp hB9 hB182 G0 H_16 r0 2 z_17) (cwV 2 hts (jgV (jWr_31 _ (List.mem_of_getElem? (i := 9) rfl)) (jWr_31 _ (List.mem_of_getElem? (i := 10) rfl)) (jWr_31 _ (List.mem_of_getElem? (i := 11) rfl)) (jWr_2 _ (List.mem_of_getElem? (i := 8) rfl)) (jWr_31 _ (List.mem_of_getElem? (i := 12) rfl))) rfl rfl rfl (by decide +kernel) ⟨by rw [← hR]; exact Nat.le_of_ble_eq_true rfl, by rw [← hR]; exact Nat.le_of_ble_eq_true rfl⟩) ⟨fun a U g mk q => by obtain ⟨q0, q1, q2, qK, q10, q11, q12⟩ := q; exact ⟨q0, q1, q2, jG.calling g mk a qK, q10, q11, q12⟩, hh_16.recv (C := RX7) (T := TX7) (N := 5) hB9 rfl (by decide) hg_r0 hK, fun U hU hW => ⟨rfl, hU, hh_16.2.1, hG.step hW hU hh_16.1, hg_r0, jP.nil, trivial⟩⟩ rfl rfl hl.1 rfl (lv_room (Nat.le_of_ble_eq_true rfl)) dX7_pushJoined_136 ⟨Nat.zero_le _, Nat.zero_le _⟩) hh_16.1 (fun q _ h => h) (fun q h => h) (fun u_18 t_18 H_18 locs_18 ht_18 hvm_18 hr_19 hb_18 hz_18 hk_18 hS_18 => ?_)
          rw [ht_18] at hb_18
          obtain ⟨hb_181, hb_182, hb_183, hb_184, hb_185⟩ := hb_18
          have hh_18 : jSt (dC, dI) B base G0 G0 EX7_pushJoined s.heap 0 0 [] [] [] H_18 locs_18 := ((hh_16.call hb_181 hb_182 hb_183 hb_184 hS_18 rfl (L1 := []) [] rfl rfl (M1 := []) [] rfl rfl (I1 := []) [] rfl rfl).more hb_185)
          clear hh_16 ht_18 hvm_18 hz_18 hk_18 hS_18 hb_181 hb_182 hb_183 hb_184 hb_185
          refine lv_aload_n hx hb dX7_pushJoined_139 rfl (lv_at hl 0 rfl) ?_
          refine lv_iconst (v := 0) hx hb dX7_pushJoined_140 (by decide) ?_
          refine lv_iload hx hb dX7_pushJoined_141 (lv_at hl 6 rfl) ?_
          refine va_callv (A0 := jA base) (H0 := s.heap) (va_runV (As := [.int 0, .int z_8]) (rest := []) ⟨hx, hb, hml, hown, hts⟩ (uX7_push l dC dI ca base B hB hAp hB9 hB182 G0 H_18 r0 0 z_8) (cwV 2 hts (jgV (jWr_31 _ (List.mem_of_getElem? (i := 9) rfl)) (jWr_31 _ (List.mem_of_getElem? (i := 10) rfl)) (jWr_31 _ (List.mem_of_getElem? (i := 11) rfl)) (jWr_2 _ (List.mem_of_getElem? (i := 8) rfl)) (jWr_31 _ (List.mem_of_getElem? (i := 12) rfl))) rfl rfl rfl (by decide +kernel) ⟨by rw [← hR]; exact Nat.le_of_ble_eq_true rfl, by rw [← hR]; exact Nat.le_of_ble_eq_true rfl⟩) ⟨fun a U g mk q => by obtain ⟨q0, q1, q2, qK, q10, q11, q12⟩ := q; exact ⟨q0, q1, q2, jG.calling g mk a qK, q10, q11, q12⟩, hh_18.recv (C := RX7) (T := TX7) (N := 5) hB9 rfl (by decide) hg_r0 hK, fun U hU hW => ⟨rfl, hU, hh_18.2.1, hG.step hW hU hh_18.1, hg_r0, jP.nil, trivial⟩⟩ rfl rfl hl.1 rfl (lv_room (Nat.le_of_ble_eq_true rfl)) dX7_pushJoined_143 ⟨Nat.zero_le _, Nat.zero_le _⟩) hh_18.1 (fun q _ h => h) (fun q h => h) (fun u_20 t_20 H_20 locs_20 ht_20 hvm_20 hr_21 hb_20 hz_20 hk_20 hS_20 => ?_)
          rw [ht_20] at hb_20
          obtain ⟨hb_201, hb_202, hb_203, hb_204, hb_205⟩ := hb_20
          have hh_20 : jSt (dC, dI) B base G0 G0 EX7_pushJoined s.heap 0 0 [] [] [] H_20 locs_20 := ((hh_18.call hb_201 hb_202 hb_203 hb_204 hS_20 rfl (L1 := []) [] rfl rfl (M1 := []) [] rfl rfl (I1 := []) [] rfl rfl).more hb_205)
          clear hh_18 ht_20 hvm_20 hz_20 hk_20 hS_20 hb_201 hb_202 hb_203 hb_204 hb_205
          refine lv_aload_n hx hb dX7_pushJoined_146 rfl (lv_at hl 0 rfl) ?_
          refine lv_iconst (v := 2) hx hb dX7_pushJoined_147 (by decide) ?_
          refine lv_iload hx hb dX7_pushJoined_148 (lv_at hl 4 rfl) ?_
          refine lv_iload_n hx hb dX7_pushJoined_150 rfl (lv_at hl 3 rfl) ?_
          refine lv_sipush (v := (-257)) hx hb dX7_pushJoined_151 (by decide) ?_
          refine lv_iand hx hb dX7_pushJoined_154 ?_
          refine lv_topi (fun z_22 ez_22 => ?_)
          refine lv_ior hx hb dX7_pushJoined_155 ?_
          refine lv_topi (fun z_23 ez_23 => ?_)
          refine lv_iload hx hb dX7_pushJoined_156 (lv_at hl 9 rfl) ?_
          refine lv_if_eq (tgt := 167) hx hb dX7_pushJoined_158 (by decide) (fun c_24 => ?_) (fun c_24 => ?_)
          · skip
            have c_24' : w0_13.toInt = 0 := jb_eq (rfl) ((by decide)) c_24
            refine lv_iconst (v := 0) hx hb dX7_pushJoined_167 (by decide) ?_
            refine lv_ior hx hb dX7_pushJoined_168 ?_
            refine lv_topi (fun z_25 ez_25 => ?_)
            refine va_callv (A0 := jA base) (H0 := s.heap) (va_runV (As := [.int 2, .int z_25]) (rest := []) ⟨hx, hb, hml, hown, hts⟩ (uX7_push l dC dI ca base B hB hAp hB9 hB182 G0 H_20 r0 2 z_25) (cwV 2 hts (jgV (jWr_31 _ (List.mem_of_getElem? (i := 9) rfl)) (jWr_31 _ (List.mem_of_getElem? (i := 10) rfl)) (jWr_31 _ (List.mem_of_getElem? (i := 11) rfl)) (jWr_2 _ (List.mem_of_getElem? (i := 8) rfl)) (jWr_31 _ (List.mem_of_getElem? (i := 12) rfl))) rfl rfl rfl (by decide +kernel) ⟨by rw [← hR]; exact Nat.le_of_ble_eq_true rfl, by rw [← hR]; exact Nat.le_of_ble_eq_true rfl⟩) ⟨fun a U g mk q => by obtain ⟨q0, q1, q2, qK, q10, q11, q12⟩ := q; exact ⟨q0, q1, q2, jG.calling g mk a qK, q10, q11, q12⟩, hh_20.recv (C := RX7) (T := TX7) (N := 5) hB9 rfl (by decide) hg_r0 hK, fun U hU hW => ⟨rfl, hU, hh_20.2.1, hG.step hW hU hh_20.1, hg_r0, jP.nil, trivial⟩⟩ rfl rfl hl.1 rfl (lv_room (Nat.le_of_ble_eq_true rfl)) dX7_pushJoined_169 ⟨Nat.zero_le _, Nat.zero_le _⟩) hh_20.1 (fun q _ h => h) (fun q h => h) (fun u_26 t_26 H_26 locs_26 ht_26 hvm_26 hr_27 hb_26 hz_26 hk_26 hS_26 => ?_)
            rw [ht_26] at hb_26
            obtain ⟨hb_261, hb_262, hb_263, hb_264, hb_265⟩ := hb_26
            have hh_26 : jSt (dC, dI) B base G0 G0 EX7_pushJoined s.heap 0 0 [] [] [] H_26 locs_26 := ((hh_20.call hb_261 hb_262 hb_263 hb_264 hS_26 rfl (L1 := []) [] rfl rfl (M1 := []) [] rfl rfl (I1 := []) [] rfl rfl).more hb_265)
            clear hh_20 ht_26 hvm_26 hz_26 hk_26 hS_26 hb_261 hb_262 hb_263 hb_264 hb_265
            rw [hQ]
            exact W.vret hx hb hr (fun t ht hW => ⟨⟨(), rfl, trivial, hh_26.rt (M1 := []) [] rfl ht⟩, by rw [ht]; try exact hh_26.1.1, fun q h9 hq => by rw [ht]; try exact hh_26.1.2.1 q h9 hq⟩) hh_26.1.2.2 dX7_pushJoined_172
          · skip
            have c_24' : w0_13.toInt ≠ 0 := jb_eq_n (rfl) ((by decide)) c_24
            refine lv_sipush (v := 512) hx hb dX7_pushJoined_161 (by decide) ?_
            refine lv_goto (tgt := 168) hx hb dX7_pushJoined_164 (by decide) ?_
            refine lv_ior hx hb dX7_pushJoined_168 ?_
            refine lv_topi (fun z_28 ez_28 => ?_)
            refine va_callv (A0 := jA base) (H0 := s.heap) (va_runV (As := [.int 2, .int z_28]) (rest := []) ⟨hx, hb, hml, hown, hts⟩ (uX7_push l dC dI ca base B hB hAp hB9 hB182 G0 H_20 r0 2 z_28) (cwV 2 hts (jgV (jWr_31 _ (List.mem_of_getElem? (i := 9) rfl)) (jWr_31 _ (List.mem_of_getElem? (i := 10) rfl)) (jWr_31 _ (List.mem_of_getElem? (i := 11) rfl)) (jWr_2 _ (List.mem_of_getElem? (i := 8) rfl)) (jWr_31 _ (List.mem_of_getElem? (i := 12) rfl))) rfl rfl rfl (by decide +kernel) ⟨by rw [← hR]; exact Nat.le_of_ble_eq_true rfl, by rw [← hR]; exact Nat.le_of_ble_eq_true rfl⟩) ⟨fun a U g mk q => by obtain ⟨q0, q1, q2, qK, q10, q11, q12⟩ := q; exact ⟨q0, q1, q2, jG.calling g mk a qK, q10, q11, q12⟩, hh_20.recv (C := RX7) (T := TX7) (N := 5) hB9 rfl (by decide) hg_r0 hK, fun U hU hW => ⟨rfl, hU, hh_20.2.1, hG.step hW hU hh_20.1, hg_r0, jP.nil, trivial⟩⟩ rfl rfl hl.1 rfl (lv_room (Nat.le_of_ble_eq_true rfl)) dX7_pushJoined_169 ⟨Nat.zero_le _, Nat.zero_le _⟩) hh_20.1 (fun q _ h => h) (fun q h => h) (fun u_29 t_29 H_29 locs_29 ht_29 hvm_29 hr_30 hb_29 hz_29 hk_29 hS_29 => ?_)
            rw [ht_29] at hb_29
            obtain ⟨hb_291, hb_292, hb_293, hb_294, hb_295⟩ := hb_29
            have hh_29 : jSt (dC, dI) B base G0 G0 EX7_pushJoined s.heap 0 0 [] [] [] H_29 locs_29 := ((hh_20.call hb_291 hb_292 hb_293 hb_294 hS_29 rfl (L1 := []) [] rfl rfl (M1 := []) [] rfl rfl (I1 := []) [] rfl rfl).more hb_295)
            clear hh_20 ht_29 hvm_29 hz_29 hk_29 hS_29 hb_291 hb_292 hb_293 hb_294 hb_295
            rw [hQ]
            exact W.vret hx hb hr (fun t ht hW => ⟨⟨(), rfl, trivial, hh_29.rt (M1 := []) [] rfl ht⟩, by rw [ht]; try exact hh_29.1.1, fun q h9 hq => by rw [ht]; try exact hh_29.1.2.1 q h9 hq⟩) hh_29.1.2.2 dX7_pushJoined_172
        refine lv_if_eq (tgt := 134) hx hb dX7_pushJoined_125 (by decide) (fun c_31 => ?_) (fun c_31 => ?_)
        · skip
          have c_31' : w0_14.toInt = 0 := jb_eq (rfl) ((by decide)) c_31
          refine lv_iconst (v := 0) hx hb dX7_pushJoined_134 (by decide) ?_
          exact C135 0 _ _ hh_14 (trivial) _ (lv_sub hl [1, 2, 3, 4, 5, 6, 7, 8, 9, 10, 0] rfl)
        · skip
          have c_31' : w0_14.toInt ≠ 0 := jb_eq_n (rfl) ((by decide)) c_31
          refine lv_sipush (v := 512) hx hb dX7_pushJoined_128 (by decide) ?_
          refine lv_goto (tgt := 135) hx hb dX7_pushJoined_131 (by decide) ?_
          exact C135 512 _ _ hh_14 (trivial) _ (lv_sub hl [1, 2, 3, 4, 5, 6, 7, 8, 9, 10, 0] rfl)
      have C98 : ∀ (H_32 : Heap) (locs_32 : List Loc), jSt (dC, dI) B base G0 G0 EX7_pushJoined s.heap 0 0 [] [] [] H_32 locs_32 → (True) → ∀ ls : Array Slot, lv_has ls 11 [(0, .ref r0), (1, .ref r1), (2, .int a2), (3, .int a3), (4, .int z_1), (5, .int r_4), (6, .int z_8), (7, .int z_10), (8, .int z_12), (9, .int w0_13)] → W p l e R s m ([.ref r0, .ref r1, .int a2, .int a3] : List Value).toArray below meth c H_32 locs_32 0 0 Q (F0 m 98 ls []) := by
        intro  H_32 locs_32 hh_32  hi_32 ls hl
        refine lv_iload hx hb dX7_pushJoined_98 (lv_at hl 8 rfl) ?_
        refine lv_iconst (v := 3) hx hb dX7_pushJoined_100 (by decide) ?_
        refine lv_icmp_ne (tgt := 114) hx hb dX7_pushJoined_101 (by decide) (fun c_33 => ?_) (fun c_33 => ?_)
        · skip
          have c_33' : z_12.toInt ≠ 3 := jb_ne (rfl) ((by decide)) c_33
          refine lv_iconst (v := 0) hx hb dX7_pushJoined_114 (by decide) ?_
          exact C115 0 _ _ hh_32 (Or.inl rfl) (trivial) _ (lv_sub hl [0, 1, 2, 3, 4, 5, 6, 7, 8, 9] rfl)
        · skip
          have c_33' : z_12.toInt = 3 := jb_ne_n (rfl) ((by decide)) c_33
          refine lv_iload hx hb dX7_pushJoined_104 (lv_at hl 6 rfl) ?_
          refine lv_iconst (v := 2) hx hb dX7_pushJoined_106 (by decide) ?_
          refine lv_icmp_ne (tgt := 114) hx hb dX7_pushJoined_107 (by decide) (fun c_34 => ?_) (fun c_34 => ?_)
          · skip
            have c_34' : z_8.toInt ≠ 2 := jb_ne (rfl) ((by decide)) c_34
            refine lv_iconst (v := 0) hx hb dX7_pushJoined_114 (by decide) ?_
            exact C115 0 _ _ hh_32 (Or.inl rfl) (trivial) _ (lv_sub hl [0, 1, 2, 3, 4, 5, 6, 7, 8, 9] rfl)
          · skip
            have c_34' : z_8.toInt = 2 := jb_ne_n (rfl) ((by decide)) c_34
            refine lv_iconst (v := 1) hx hb dX7_pushJoined_110 (by decide) ?_
            refine lv_goto (tgt := 115) hx hb dX7_pushJoined_111 (by decide) ?_
            exact C115 1 _ _ hh_32 (Or.inr rfl) (trivial) _ (lv_sub hl [0, 1, 2, 3, 4, 5, 6, 7, 8, 9] rfl)
      refine lv_icmp_ne (tgt := 98) hx hb dX7_pushJoined_89 (by decide) (fun c_35 => ?_) (fun c_35 => ?_)
      · skip
        have c_35' : z_12.toInt ≠ 1 := jb_ne (rfl) ((by decide)) c_35
        exact C98  _ _ hh_13 (trivial) _ (lv_sub hl [1, 2, 3, 4, 5, 6, 7, 8, 9, 0] rfl)
      · skip
        have c_35' : z_12.toInt = 1 := jb_ne_n (rfl) ((by decide)) c_35
        refine lv_iload hx hb dX7_pushJoined_92 (lv_at hl 7 rfl) ?_
        refine lv_iconst (v := 1) hx hb dX7_pushJoined_94 (by decide) ?_
        refine lv_icmp_ne (tgt := 110) hx hb dX7_pushJoined_95 (by decide) (fun c_36 => ?_) (fun c_36 => ?_)
        · skip
          have c_36' : z_8.toInt ≠ 1 := jb_ne (rfl) ((by decide)) c_36
          refine lv_iconst (v := 1) hx hb dX7_pushJoined_110 (by decide) ?_
          refine lv_goto (tgt := 115) hx hb dX7_pushJoined_111 (by decide) ?_
          exact C115 1 _ _ hh_13 (Or.inr rfl) (trivial) _ (lv_sub hl [1, 2, 3, 4, 5, 6, 7, 8, 9, 0] rfl)
        · skip
          have c_36' : z_8.toInt = 1 := jb_ne_n (rfl) ((by decide)) c_36
          exact C98  _ _ hh_13 (trivial) _ (lv_sub hl [1, 2, 3, 4, 5, 6, 7, 8, 9, 0] rfl)
    refine lv_icmp_eq (tgt := 79) hx hb dX7_pushJoined_52 (by decide) (fun c_37 => ?_) (fun c_37 => ?_)
    · skip
      have c_37' : z_10.toInt = 1 := jb_eq (rfl) ((by decide)) c_37
      refine lv_iconst (v := 1) hx hb dX7_pushJoined_79 (by decide) ?_
      refine lv_goto (tgt := 84) hx hb dX7_pushJoined_80 (by decide) ?_
      exact C84 1 _ _ hh_3 (Or.inr rfl) (trivial) _ (lv_sub hl [5, 6, 7, 8, 4, 3, 2, 1, 0] rfl)
    · skip
      have c_37' : z_10.toInt ≠ 1 := jb_eq_n (rfl) ((by decide)) c_37
      refine lv_iload hx hb dX7_pushJoined_55 (lv_at hl 1 rfl) ?_
      refine lv_iconst (v := 3) hx hb dX7_pushJoined_57 (by decide) ?_
      have C67 : ∀ (H_38 : Heap) (locs_38 : List Loc), jSt (dC, dI) B base G0 G0 EX7_pushJoined s.heap 0 0 [] [] [] H_38 locs_38 → (True) → ∀ ls : Array Slot, lv_has ls 11 [(0, .ref r0), (1, .ref r1), (2, .int a2), (3, .int a3), (4, .int z_1), (5, .int r_4), (6, .int z_8), (7, .int z_10), (8, .int z_12)] → W p l e R s m ([.ref r0, .ref r1, .int a2, .int a3] : List Value).toArray below meth c H_38 locs_38 0 0 Q (F0 m 67 ls []) := by
        intro  H_38 locs_38 hh_38  hi_38 ls hl
        try clear hr_4_1
        refine lv_iload hx hb dX7_pushJoined_67 (lv_at hl 7 rfl) ?_
        refine lv_iconst (v := 2) hx hb dX7_pushJoined_69 (by decide) ?_
        refine lv_icmp_ne (tgt := 83) hx hb dX7_pushJoined_70 (by decide) (fun c_39 => ?_) (fun c_39 => ?_)
        · skip
          have c_39' : z_10.toInt ≠ 2 := jb_ne (rfl) ((by decide)) c_39
          refine lv_iconst (v := 0) hx hb dX7_pushJoined_83 (by decide) ?_
          exact C84 0 _ _ hh_38 (Or.inl rfl) (trivial) _ (lv_sub hl [0, 1, 2, 3, 4, 5, 6, 7, 8] rfl)
        · skip
          have c_39' : z_10.toInt = 2 := jb_ne_n (rfl) ((by decide)) c_39
          refine lv_iload hx hb dX7_pushJoined_73 (lv_at hl 6 rfl) ?_
          refine lv_iconst (v := 2) hx hb dX7_pushJoined_75 (by decide) ?_
          refine lv_icmp_ne (tgt := 83) hx hb dX7_pushJoined_76 (by decide) (fun c_40 => ?_) (fun c_40 => ?_)
          · skip
            have c_40' : z_8.toInt ≠ 2 := jb_ne (rfl) ((by decide)) c_40
            refine lv_iconst (v := 0) hx hb dX7_pushJoined_83 (by decide) ?_
            exact C84 0 _ _ hh_38 (Or.inl rfl) (trivial) _ (lv_sub hl [0, 1, 2, 3, 4, 5, 6, 7, 8] rfl)
          · skip
            have c_40' : z_8.toInt = 2 := jb_ne_n (rfl) ((by decide)) c_40
            refine lv_iconst (v := 1) hx hb dX7_pushJoined_79 (by decide) ?_
            refine lv_goto (tgt := 84) hx hb dX7_pushJoined_80 (by decide) ?_
            exact C84 1 _ _ hh_38 (Or.inr rfl) (trivial) _ (lv_sub hl [0, 1, 2, 3, 4, 5, 6, 7, 8] rfl)
      refine lv_icmp_ne (tgt := 67) hx hb dX7_pushJoined_58 (by decide) (fun c_41 => ?_) (fun c_41 => ?_)
      · skip
        have c_41' : z_10.toInt ≠ 3 := jb_ne (rfl) ((by decide)) c_41
        exact C67  _ _ hh_3 (trivial) _ (lv_sub hl [5, 6, 7, 8, 4, 3, 2, 1, 0] rfl)
      · skip
        have c_41' : z_10.toInt = 3 := jb_ne_n (rfl) ((by decide)) c_41
        refine lv_iload hx hb dX7_pushJoined_61 (lv_at hl 2 rfl) ?_
        refine lv_iconst (v := 1) hx hb dX7_pushJoined_63 (by decide) ?_
        refine lv_icmp_ne (tgt := 79) hx hb dX7_pushJoined_64 (by decide) (fun c_42 => ?_) (fun c_42 => ?_)
        · skip
          have c_42' : z_8.toInt ≠ 1 := jb_ne (rfl) ((by decide)) c_42
          refine lv_iconst (v := 1) hx hb dX7_pushJoined_79 (by decide) ?_
          refine lv_goto (tgt := 84) hx hb dX7_pushJoined_80 (by decide) ?_
          exact C84 1 _ _ hh_3 (Or.inr rfl) (trivial) _ (lv_sub hl [5, 6, 7, 8, 4, 3, 2, 1, 0] rfl)
        · skip
          have c_42' : z_8.toInt = 1 := jb_ne_n (rfl) ((by decide)) c_42
          exact C67  _ _ hh_3 (trivial) _ (lv_sub hl [5, 6, 7, 8, 4, 3, 2, 1, 0] rfl)
  · skip
    have c_6' : r_4.toInt ≥ z_5.toInt := jb_lt_n (rfl) (rfl) c_6
    first | (have hr_4_1q := hr_4_1.resolve_left (by omega); clear hr_4_1) | (have hr_4_1q := hr_4_1.resolve_right (by omega); clear hr_4_1) | skip
    rw [hQ]
    exact W.vret hx hb hr (fun t ht hW => ⟨⟨(), rfl, trivial, hh_3.rt (M1 := []) [] rfl ht⟩, by rw [ht]; try exact hh_3.1.1, fun q h9 hq => by rw [ht]; try exact hh_3.1.2.1 q h9 hq⟩) hh_3.1.2.2 dX7_pushJoined_22
set_option maxHeartbeats 4000000 in
set_option maxRecDepth 20000 in
theorem uX7_pushTerm (l : Launch) (dC : Nat → ClassId) (dI : Nat → Nat → Nat) (ca : Nat → ClassId) (base : Nat) (B : jF) (hB : jBok B) (hAp : jAp (dC, dI)) (hB9 : ∀ n G a H, B 9 n G a H ↔ jOb (dC, dI) 9 5 (F9 n G) a H) (hB180 : ∀ n G a H, B 180 n G a H ↔ jAr (dC, dI) (ca 1) (fun j z => 0 ≤ z.toInt) n a H) (hB182 : ∀ n G a H, B 182 n G a H ↔ jAr (dC, dI) (ca 1) (fun j z => True) n a H) (hB183 : ∀ n G a H, B 183 n G a H ↔ jAr (dC, dI) (ca 1) (fun j z => 0 ≤ z.toInt) n a H) (hB184 : ∀ n G a H, B 184 n G a H ↔ jAr (dC, dI) (ca 1) (fun j z => True) n a H) (G0 : jT) (H0 : Heap) (r0 : Nat) (r1 : Nat) (a2 : Int32) (n1 : Nat) : Met l yX7_pushTerm (jw yX7_pushTerm cX7_pushTerm 8 none) ({ frames := 1, cells := 0, slots := 0, locals := 25 }) (va_Pc [.ref r0, .ref r1, .int a2] (fun U => U.heap = H0 ∧ jX B base G0 [] H0 ∧ jG dC dI ca base U ∧ G0 r1 = some (180, n1) ∧ G0 r0 = some (9, 0) ∧ jP (dC, dI) G0 H0 [] ∧ 0 ≤ a2.toInt ∧ a2.toInt < n1 ∧ n1 ≤ 100000)) (va_Qv (S := Unit) (fun u => True) (fun u t => jRt (dC, dI) B base G0 EX7_pushTerm H0 [] t.heap) (jA base)) 0 0 (jA base) := by
  refine Met.ofW (cc := cX7_pushTerm) (maxL := 8) (ret := none) (by decide) rfl ?_
  intro p e s m args below meth c s₁ Bd hml hv
  obtain ⟨rfl, hH0, hX, hG, hg_r1, hg_r0, hP0, hp0, hp1, hp2⟩ := hv
  have hK := hG.1
  have hx := Bd.exec
  have hb := Bd.bytes
  have hr := Bd.returns
  have hts := atoms_spec (ws := (jw yX7_pushTerm cX7_pushTerm 8 none)) Bd.pre
  have htw : ∀ w ∈ jWl, w.before _ s = true := fun w h => hts w (List.mem_cons_of_mem _ h)
  have hown : s.vm.findClass RX7 = some m.cls := findClass_of_methodNamed Bd.named
  have hlocks := Bd.notSynchronized
  obtain ⟨Q, hQ⟩ : ∃ Q, Q = MQ below (va_Qv (S := Unit) (fun u => True) (fun u t => jRt (dC, dI) B base G0 EX7_pushTerm H0 [] t.heap) (jA base)) ([.ref r0, .ref r1, .int a2] : List Value).toArray s 0 0 (jA base) := ⟨_, rfl⟩
  rw [← hQ]
  have hl := lv_entry ([.ref r0, .ref r1, .int a2]) (n := 8) (Nat.le_of_ble_eq_true rfl)
  rw [lg_entry_eq]
  generalize (lg_sl ([.ref r0, .ref r1, .int a2]) ++ List.replicate (8 - (lg_sl ([.ref r0, .ref r1, .int a2])).length) Slot.unset).toArray = ls at hl ⊢
  have hl : lv_has ls 8 [(0, .ref r0), (1, .ref r1), (2, .int a2)] := hl
  generalize hR : (headSpec (jw yX7_pushTerm cX7_pushTerm 8 none) ({ frames := 1, cells := 0, slots := 0, locals := 25 })).room = R
  subst hH0
  have hh : jSt (dC, dI) B base G0 G0 EX7_pushTerm s.heap 0 0 [] [] [] s.heap [] := jSt.start hX hP0 jMc.nil jIs.nil
  clear hX hP0
  have hk0 : (0 : Int32).toInt = 0 := by decide
  have hk1 : (1 : Int32).toInt = 1 := by decide
  have hk2 : (2 : Int32).toInt = 2 := by decide
  have hk4 : (4 : Int32).toInt = 4 := by decide
  have hk10 : (10 : Int32).toInt = 10 := by decide
  have hk15 : (15 : Int32).toInt = 15 := by decide
  have hk16 : (16 : Int32).toInt = 16 := by decide
  have hk17 : (17 : Int32).toInt = 17 := by decide
  have hk18 : (18 : Int32).toInt = 18 := by decide
  have hk2047 : (2047 : Int32).toInt = 2047 := by decide
  have hly_9_3 := htw (u_lay RX7 TX7 3) (jWc_wsX70 _ (u_in_lay (by decide)))
  have hly_9_4 := htw (u_lay RX7 TX7 4) (jWc_wsX70 _ (u_in_lay (by decide)))
  have hlk_15 := (htw (.fieldLink RX7 15 "ProofServer$Printer" "boundNames" "[I") (jWr_9 _ (List.mem_of_getElem? (i := 8) rfl)))
  have hlk_18 := (htw (.fieldLink RX7 18 "ProofServer$Printer" "boundMore" "[I") (jWr_9 _ (List.mem_of_getElem? (i := 9) rfl)))
  have hrg_a2 := jb_rng a2
  refine lv_aload_n hx hb dX7_pushTerm_0 rfl (lv_at hl 1 rfl) ?_
  refine lv_iload_n hx hb dX7_pushTerm_1 rfl (lv_at hl 2 rfl) ?_
  refine j7_iald hx hb hK hh hB180 1 rfl (by decide) hg_r1 (x := a2.toInt) (rfl) (by omega) dX7_pushTerm_2 (fun z_1 (hz_1 : 0 ≤ z_1.toInt) => ?_)
  refine lv_bipush (v := 15) hx hb dX7_pushTerm_3 (by decide) ?_
  refine lv_ishr hx hb dX7_pushTerm_5 ?_
  refine lv_topi (fun z_2 ez_2 => ?_)
  have hz_2 : z_2.toInt = z_1.toInt / 2 ^ 15 := by rw [ez_2]; exact jb_ishr 15 (rfl) (by decide)
  refine lv_istore_n (lv' := [(3, .int z_2), (0, .ref r0), (1, .ref r1), (2, .int a2)]) hx hb dX7_pushTerm_6 rfl hl (by decide) rfl (fun ls hl => ?_)
  refine lv_aload_n hx hb dX7_pushTerm_7 rfl (lv_at hl 2 rfl) ?_
  refine lv_iload_n hx hb dX7_pushTerm_8 rfl (lv_at hl 3 rfl) ?_
  refine j7_iald hx hb hK hh hB180 1 rfl (by decide) hg_r1 (x := a2.toInt) (rfl) (by omega) dX7_pushTerm_9 (fun z_3 (hz_3 : 0 ≤ z_3.toInt) => ?_)
  refine lv_bipush (v := 15) hx hb dX7_pushTerm_10 (by decide) ?_
  refine lv_iand hx hb dX7_pushTerm_12 ?_
  refine lv_topi (fun z_4 ez_4 => ?_)
  have hz_4 : 0 ≤ z_4.toInt ∧ z_4.toInt ≤ 15 := by rw [ez_4]; exact jb_and z_3 (m := 15) (k := 4) (by decide) (by decide)
  refine lv_bipush (v := 10) hx hb dX7_pushTerm_13 (by decide) ?_
  refine lv_icmp_ne (tgt := 49) hx hb dX7_pushTerm_15 (by decide) (fun c_5 => ?_) (fun c_5 => ?_)
  · skip
    have c_5' : z_4.toInt ≠ 10 := jb_ne (rfl) ((by decide)) c_5
    refine lv_aload_n hx hb dX7_pushTerm_49 rfl (lv_at hl 2 rfl) ?_
    refine lv_iload_n hx hb dX7_pushTerm_50 rfl (lv_at hl 3 rfl) ?_
    refine j7_iald hx hb hK hh hB180 1 rfl (by decide) hg_r1 (x := a2.toInt) (rfl) (by omega) dX7_pushTerm_51 (fun z_6 (hz_6 : 0 ≤ z_6.toInt) => ?_)
    refine lv_iconst (v := 4) hx hb dX7_pushTerm_52 (by decide) ?_
    refine lv_ishr hx hb dX7_pushTerm_53 ?_
    refine lv_topi (fun z_7 ez_7 => ?_)
    have hz_7 : z_7.toInt = z_6.toInt / 2 ^ 4 := by rw [ez_7]; exact jb_ishr 4 (rfl) (by decide)
    refine lv_sipush (v := 2047) hx hb dX7_pushTerm_54 (by decide) ?_
    refine lv_iand hx hb dX7_pushTerm_57 ?_
    refine lv_topi (fun z_8 ez_8 => ?_)
    have hz_8 : 0 ≤ z_8.toInt ∧ z_8.toInt ≤ 2047 := by rw [ez_8]; exact jb_and z_7 (m := 2047) (k := 11) (by decide) (by decide)
    refine lv_istore (lv' := [(4, .int z_8), (3, .int z_2), (0, .ref r0), (1, .ref r1), (2, .int a2)]) hx hb dX7_pushTerm_58 hl (by decide) rfl (fun ls hl => ?_)
    refine lv_iload hx hb dX7_pushTerm_60 (lv_at hl 0 rfl) ?_
    have C72 : ∀ (H_9 : Heap) (locs_9 : List Loc), jSt (dC, dI) B base G0 G0 EX7_pushTerm s.heap 0 0 [] [] [] H_9 locs_9 → (True) → ∀ ls : Array Slot, lv_has ls 8 [(0, .ref r0), (1, .ref r1), (2, .int a2), (3, .int z_2), (4, .int z_8)] → W p l e R s m ([.ref r0, .ref r1, .int a2] : List Value).toArray below meth c H_9 locs_9 0 0 Q (F0 m 72 ls []) := by
      intro  H_9 locs_9 hh_9  hi_9 ls hl
      refine lv_iload hx hb dX7_pushTerm_72 (lv_at hl 4 rfl) ?_
      refine lv_istore (lv' := [(5, .int z_8), (0, .ref r0), (1, .ref r1), (2, .int a2), (3, .int z_2), (4, .int z_8)]) hx hb dX7_pushTerm_74 hl (by decide) rfl (fun ls hl => ?_)
      have L76 : ∀ (N : Nat) (v5_10 : Int32) (H_10 : Heap) (locs_10 : List Loc), jSt (dC, dI) B base G0 G0 EX7_pushTerm s.heap 0 0 [] [] [] H_10 locs_10 → (0 ≤ v5_10.toInt ∧ v5_10.toInt ≤ 2047) → (v5_10.toInt : Int) < N → ∀ ls : Array Slot, lv_has ls 8 [(0, .ref r0), (1, .ref r1), (2, .int a2), (3, .int z_2), (4, .int z_8), (5, .int v5_10)] → W p l e R s m ([.ref r0, .ref r1, .int a2] : List Value).toArray below meth c H_10 locs_10 0 0 Q (F0 m 76 ls []) := by
        intro N
        induction N with
        | zero => intro v5_10 H_10 locs_10 hh_10  hi_10 hm; exact absurd hm (by omega)
        | succ N L76 =>
          intro v5_10 H_10 locs_10 hh_10  hi_10 hm_10 ls hl
          obtain ⟨hi_10_0, hi_10_1⟩ := hi_10
          refine lv_iload hx hb dX7_pushTerm_76 (lv_at hl 5 rfl) ?_
          refine lv_if_le (tgt := 143) hx hb dX7_pushTerm_78 (by decide) (fun c_11 => ?_) (fun c_11 => ?_)
          · skip
            have c_11' : v5_10.toInt ≤ 0 := jb_le (rfl) ((by decide)) c_11
            refine lv_aload_n hx hb dX7_pushTerm_143 rfl (lv_at hl 0 rfl) ?_
            refine lv_iconst (v := 1) hx hb dX7_pushTerm_144 (by decide) ?_
            refine lv_iload_n hx hb dX7_pushTerm_145 rfl (lv_at hl 3 rfl) ?_
            refine va_callv (A0 := jA base) (H0 := s.heap) (va_runV (As := [.int 1, .int z_2]) (rest := []) ⟨hx, hb, hml, hown, hts⟩ (uX7_push l dC dI ca base B hB hAp hB9 hB182 G0 H_10 r0 1 z_2) (cwV 2 hts (jgV (jWr_31 _ (List.mem_of_getElem? (i := 9) rfl)) (jWr_31 _ (List.mem_of_getElem? (i := 10) rfl)) (jWr_31 _ (List.mem_of_getElem? (i := 11) rfl)) (jWr_2 _ (List.mem_of_getElem? (i := 8) rfl)) (jWr_31 _ (List.mem_of_getElem? (i := 12) rfl))) rfl rfl rfl (by decide +kernel) ⟨by rw [← hR]; exact Nat.le_of_ble_eq_true rfl, by rw [← hR]; exact Nat.le_of_ble_eq_true rfl⟩) ⟨fun a U g mk q => by obtain ⟨q0, q1, q2, qK, q10, q11, q12⟩ := q; exact ⟨q0, q1, q2, jG.calling g mk a qK, q10, q11, q12⟩, hh_10.recv (C := RX7) (T := TX7) (N := 5) hB9 rfl (by decide) hg_r0 hK, fun U hU hW => ⟨rfl, hU, hh_10.2.1, hG.step hW hU hh_10.1, hg_r0, jP.nil, trivial⟩⟩ rfl rfl hl.1 rfl (lv_room (Nat.le_of_ble_eq_true rfl)) dX7_pushTerm_146 ⟨Nat.zero_le _, Nat.zero_le _⟩) hh_10.1 (fun q _ h => h) (fun q h => h) (fun u_12 t_12 H_12 locs_12 ht_12 hvm_12 hr_13 hb_12 hz_12 hk_12 hS_12 => ?_)
            rw [ht_12] at hb_12
            obtain ⟨hb_121, hb_122, hb_123, hb_124, hb_125⟩ := hb_12
            have hh_12 : jSt (dC, dI) B base G0 G0 EX7_pushTerm s.heap 0 0 [] [] [] H_12 locs_12 := ((hh_10.call hb_121 hb_122 hb_123 hb_124 hS_12 rfl (L1 := []) [] rfl rfl (M1 := []) [] rfl rfl (I1 := []) [] rfl rfl).more hb_125)
            clear hh_10 ht_12 hvm_12 hz_12 hk_12 hS_12 hb_121 hb_122 hb_123 hb_124 hb_125
            rw [hQ]
            exact W.vret hx hb hr (fun t ht hW => ⟨⟨(), rfl, trivial, hh_12.rt (M1 := []) [] rfl ht⟩, by rw [ht]; try exact hh_12.1.1, fun q h9 hq => by rw [ht]; try exact hh_12.1.2.1 q h9 hq⟩) hh_12.1.2.2 dX7_pushTerm_149
          · skip
            have c_11' : v5_10.toInt > 0 := jb_le_n (rfl) ((by decide)) c_11
            refine lv_iload_n hx hb dX7_pushTerm_81 rfl (lv_at hl 2 rfl) ?_
            refine lv_iconst (v := 1) hx hb dX7_pushTerm_82 (by decide) ?_
            refine lv_iadd hx hb dX7_pushTerm_83 ?_
            refine lv_topi (fun z_14 ez_14 => ?_)
            have hz_14 : z_14.toInt = a2.toInt + 1 := by rw [ez_14]; exact jb_iadd2 (rfl) ((by decide)) (by omega)
            refine lv_istore (lv' := [(6, .int z_14), (0, .ref r0), (1, .ref r1), (2, .int a2), (3, .int z_2), (4, .int z_8), (5, .int v5_10)]) hx hb dX7_pushTerm_84 hl (by decide) rfl (fun ls hl => ?_)
            refine lv_iconst (v := 1) hx hb dX7_pushTerm_86 (by decide) ?_
            refine lv_istore (lv' := [(7, .int 1), (6, .int z_14), (0, .ref r0), (1, .ref r1), (2, .int a2), (3, .int z_2), (4, .int z_8), (5, .int v5_10)]) hx hb dX7_pushTerm_87 hl (by decide) rfl (fun ls hl => ?_)
            have L89 : ∀ (N : Nat) (v6_15 : Int32) (v7_15 : Int32) (H_15 : Heap) (locs_15 : List Loc), jSt (dC, dI) B base G0 G0 EX7_pushTerm s.heap 0 0 [] [] [] H_15 locs_15 → (1 ≤ v7_15.toInt ∧ v7_15.toInt ≤ 2048 ∧ 0 ≤ v6_15.toInt ∧ v6_15.toInt ≤ 200000) → (((v5_10.toInt - v7_15.toInt).toNat : Int) : Int) < N → ∀ ls : Array Slot, lv_has ls 8 [(0, .ref r0), (1, .ref r1), (2, .int a2), (3, .int z_2), (4, .int z_8), (5, .int v5_10), (6, .int v6_15), (7, .int v7_15)] → W p l e R s m ([.ref r0, .ref r1, .int a2] : List Value).toArray below meth c H_15 locs_15 0 0 Q (F0 m 89 ls []) := by
              intro N
              induction N with
              | zero => intro v6_15 v7_15 H_15 locs_15 hh_15  hi_15 hm; exact absurd hm (by omega)
              | succ N L89 =>
                intro v6_15 v7_15 H_15 locs_15 hh_15  hi_15 hm_15 ls hl
                obtain ⟨hi_15_0, hi_15_1, hi_15_2, hi_15_3⟩ := hi_15
                refine lv_iload hx hb dX7_pushTerm_89 (lv_at hl 7 rfl) ?_
                refine lv_iload hx hb dX7_pushTerm_91 (lv_at hl 5 rfl) ?_
                refine lv_icmp_ge (tgt := 112) hx hb dX7_pushTerm_93 (by decide) (fun c_16 => ?_) (fun c_16 => ?_)
                · skip
                  have c_16' : v7_15.toInt ≥ v5_10.toInt := jb_ge (rfl) (rfl) c_16
                  refine lv_aload_n hx hb dX7_pushTerm_112 rfl (lv_at hl 0 rfl) ?_
                  refine lv_iconst (v := 2) hx hb dX7_pushTerm_113 (by decide) ?_
                  refine lv_iload hx hb dX7_pushTerm_114 (lv_at hl 6 rfl) ?_
                  refine va_callv (A0 := jA base) (H0 := s.heap) (va_runV (As := [.int 2, .int v6_15]) (rest := []) ⟨hx, hb, hml, hown, hts⟩ (uX7_push l dC dI ca base B hB hAp hB9 hB182 G0 H_15 r0 2 v6_15) (cwV 2 hts (jgV (jWr_31 _ (List.mem_of_getElem? (i := 9) rfl)) (jWr_31 _ (List.mem_of_getElem? (i := 10) rfl)) (jWr_31 _ (List.mem_of_getElem? (i := 11) rfl)) (jWr_2 _ (List.mem_of_getElem? (i := 8) rfl)) (jWr_31 _ (List.mem_of_getElem? (i := 12) rfl))) rfl rfl rfl (by decide +kernel) ⟨by rw [← hR]; exact Nat.le_of_ble_eq_true rfl, by rw [← hR]; exact Nat.le_of_ble_eq_true rfl⟩) ⟨fun a U g mk q => by obtain ⟨q0, q1, q2, qK, q10, q11, q12⟩ := q; exact ⟨q0, q1, q2, jG.calling g mk a qK, q10, q11, q12⟩, hh_15.recv (C := RX7) (T := TX7) (N := 5) hB9 rfl (by decide) hg_r0 hK, fun U hU hW => ⟨rfl, hU, hh_15.2.1, hG.step hW hU hh_15.1, hg_r0, jP.nil, trivial⟩⟩ rfl rfl hl.1 rfl (lv_room (Nat.le_of_ble_eq_true rfl)) dX7_pushTerm_116 ⟨Nat.zero_le _, Nat.zero_le _⟩) hh_15.1 (fun q _ h => h) (fun q h => h) (fun u_17 t_17 H_17 locs_17 ht_17 hvm_17 hr_18 hb_17 hz_17 hk_17 hS_17 => ?_)
                  rw [ht_17] at hb_17
                  obtain ⟨hb_171, hb_172, hb_173, hb_174, hb_175⟩ := hb_17
                  have hh_17 : jSt (dC, dI) B base G0 G0 EX7_pushTerm s.heap 0 0 [] [] [] H_17 locs_17 := ((hh_15.call hb_171 hb_172 hb_173 hb_174 hS_17 rfl (L1 := []) [] rfl rfl (M1 := []) [] rfl rfl (I1 := []) [] rfl rfl).more hb_175)
                  clear hh_15 ht_17 hvm_17 hz_17 hk_17 hS_17 hb_171 hb_172 hb_173 hb_174 hb_175
                  refine lv_aload_n hx hb dX7_pushTerm_119 rfl (lv_at hl 0 rfl) ?_
                  refine lv_iconst (v := 0) hx hb dX7_pushTerm_120 (by decide) ?_
                  refine lv_iload hx hb dX7_pushTerm_121 (lv_at hl 5 rfl) ?_
                  refine lv_iconst (v := 1) hx hb dX7_pushTerm_123 (by decide) ?_
                  refine lv_icmp_le (tgt := 132) hx hb dX7_pushTerm_124 (by decide) (fun c_19 => ?_) (fun c_19 => ?_)
                  · skip
                    have c_19' : v5_10.toInt ≤ 1 := jb_le (rfl) ((by decide)) c_19
                    refine lv_bipush (v := 17) hx hb dX7_pushTerm_132 (by decide) ?_
                    refine va_callv (A0 := jA base) (H0 := s.heap) (va_runV (As := [.int 0, .int 17]) (rest := []) ⟨hx, hb, hml, hown, hts⟩ (uX7_push l dC dI ca base B hB hAp hB9 hB182 G0 H_17 r0 0 17) (cwV 2 hts (jgV (jWr_31 _ (List.mem_of_getElem? (i := 9) rfl)) (jWr_31 _ (List.mem_of_getElem? (i := 10) rfl)) (jWr_31 _ (List.mem_of_getElem? (i := 11) rfl)) (jWr_2 _ (List.mem_of_getElem? (i := 8) rfl)) (jWr_31 _ (List.mem_of_getElem? (i := 12) rfl))) rfl rfl rfl (by decide +kernel) ⟨by rw [← hR]; exact Nat.le_of_ble_eq_true rfl, by rw [← hR]; exact Nat.le_of_ble_eq_true rfl⟩) ⟨fun a U g mk q => by obtain ⟨q0, q1, q2, qK, q10, q11, q12⟩ := q; exact ⟨q0, q1, q2, jG.calling g mk a qK, q10, q11, q12⟩, hh_17.recv (C := RX7) (T := TX7) (N := 5) hB9 rfl (by decide) hg_r0 hK, fun U hU hW => ⟨rfl, hU, hh_17.2.1, hG.step hW hU hh_17.1, hg_r0, jP.nil, trivial⟩⟩ rfl rfl hl.1 rfl (lv_room (Nat.le_of_ble_eq_true rfl)) dX7_pushTerm_134 ⟨Nat.zero_le _, Nat.zero_le _⟩) hh_17.1 (fun q _ h => h) (fun q h => h) (fun u_20 t_20 H_20 locs_20 ht_20 hvm_20 hr_21 hb_20 hz_20 hk_20 hS_20 => ?_)
                    rw [ht_20] at hb_20
                    obtain ⟨hb_201, hb_202, hb_203, hb_204, hb_205⟩ := hb_20
                    have hh_20 : jSt (dC, dI) B base G0 G0 EX7_pushTerm s.heap 0 0 [] [] [] H_20 locs_20 := ((hh_17.call hb_201 hb_202 hb_203 hb_204 hS_20 rfl (L1 := []) [] rfl rfl (M1 := []) [] rfl rfl (I1 := []) [] rfl rfl).more hb_205)
                    clear hh_17 ht_20 hvm_20 hz_20 hk_20 hS_20 hb_201 hb_202 hb_203 hb_204 hb_205
                    obtain ⟨z_22, ez_22⟩ : ∃ y : Int32, y = v5_10 + (-1) := ⟨_, rfl⟩
                    refine lv_iinc (v := z_22) (lv' := [(5, .int z_22), (0, .ref r0), (1, .ref r1), (2, .int a2), (3, .int z_2), (4, .int z_8), (6, .int v6_15), (7, .int v7_15)]) hx hb dX7_pushTerm_137 hl (k := 5) rfl (by rw [ez_22]; rfl) (by decide) rfl (fun ls hl => ?_)
                    have hz_22 : z_22.toInt = v5_10.toInt + (-1) := by rw [ez_22]; exact jb_iadd2 (rfl) (by decide) (by omega)
                    refine lv_goto (tgt := 76) hx hb dX7_pushTerm_140 (by decide) ?_
                    exact L76 z_22 _ _ hh_20 (by first | omega | (refine ⟨?_, ?_⟩ <;> (first | omega | rfl | assumption | decide | exact Or.inl rfl | exact Or.inr rfl | (simp only; omega)))) (by omega) _ (lv_sub hl [1, 2, 3, 4, 5, 0] rfl)
                  · skip
                    have c_19' : v5_10.toInt > 1 := jb_le_n (rfl) ((by decide)) c_19
                    refine lv_bipush (v := 18) hx hb dX7_pushTerm_127 (by decide) ?_
                    refine lv_goto (tgt := 134) hx hb dX7_pushTerm_129 (by decide) ?_
                    refine va_callv (A0 := jA base) (H0 := s.heap) (va_runV (As := [.int 0, .int 18]) (rest := []) ⟨hx, hb, hml, hown, hts⟩ (uX7_push l dC dI ca base B hB hAp hB9 hB182 G0 H_17 r0 0 18) (cwV 2 hts (jgV (jWr_31 _ (List.mem_of_getElem? (i := 9) rfl)) (jWr_31 _ (List.mem_of_getElem? (i := 10) rfl)) (jWr_31 _ (List.mem_of_getElem? (i := 11) rfl)) (jWr_2 _ (List.mem_of_getElem? (i := 8) rfl)) (jWr_31 _ (List.mem_of_getElem? (i := 12) rfl))) rfl rfl rfl (by decide +kernel) ⟨by rw [← hR]; exact Nat.le_of_ble_eq_true rfl, by rw [← hR]; exact Nat.le_of_ble_eq_true rfl⟩) ⟨fun a U g mk q => by obtain ⟨q0, q1, q2, qK, q10, q11, q12⟩ := q; exact ⟨q0, q1, q2, jG.calling g mk a qK, q10, q11, q12⟩, hh_17.recv (C := RX7) (T := TX7) (N := 5) hB9 rfl (by decide) hg_r0 hK, fun U hU hW => ⟨rfl, hU, hh_17.2.1, hG.step hW hU hh_17.1, hg_r0, jP.nil, trivial⟩⟩ rfl rfl hl.1 rfl (lv_room (Nat.le_of_ble_eq_true rfl)) dX7_pushTerm_134 ⟨Nat.zero_le _, Nat.zero_le _⟩) hh_17.1 (fun q _ h => h) (fun q h => h) (fun u_23 t_23 H_23 locs_23 ht_23 hvm_23 hr_24 hb_23 hz_23 hk_23 hS_23 => ?_)
                    rw [ht_23] at hb_23
                    obtain ⟨hb_231, hb_232, hb_233, hb_234, hb_235⟩ := hb_23
                    have hh_23 : jSt (dC, dI) B base G0 G0 EX7_pushTerm s.heap 0 0 [] [] [] H_23 locs_23 := ((hh_17.call hb_231 hb_232 hb_233 hb_234 hS_23 rfl (L1 := []) [] rfl rfl (M1 := []) [] rfl rfl (I1 := []) [] rfl rfl).more hb_235)
                    clear hh_17 ht_23 hvm_23 hz_23 hk_23 hS_23 hb_231 hb_232 hb_233 hb_234 hb_235
                    obtain ⟨z_25, ez_25⟩ : ∃ y : Int32, y = v5_10 + (-1) := ⟨_, rfl⟩
                    refine lv_iinc (v := z_25) (lv' := [(5, .int z_25), (0, .ref r0), (1, .ref r1), (2, .int a2), (3, .int z_2), (4, .int z_8), (6, .int v6_15), (7, .int v7_15)]) hx hb dX7_pushTerm_137 hl (k := 5) rfl (by rw [ez_25]; rfl) (by decide) rfl (fun ls hl => ?_)
                    have hz_25 : z_25.toInt = v5_10.toInt + (-1) := by rw [ez_25]; exact jb_iadd2 (rfl) (by decide) (by omega)
                    refine lv_goto (tgt := 76) hx hb dX7_pushTerm_140 (by decide) ?_
                    exact L76 z_25 _ _ hh_23 (by first | omega | (refine ⟨?_, ?_⟩ <;> (first | omega | rfl | assumption | decide | exact Or.inl rfl | exact Or.inr rfl | (simp only; omega)))) (by omega) _ (lv_sub hl [1, 2, 3, 4, 5, 0] rfl)
                · skip
                  have c_16' : v7_15.toInt < v5_10.toInt := jb_ge_n (rfl) (rfl) c_16
                  refine lv_aload_n hx hb dX7_pushTerm_96 rfl (lv_at hl 1 rfl) ?_
                  refine lv_iload hx hb dX7_pushTerm_97 (lv_at hl 6 rfl) ?_
                  refine lv_aload_n hx hb dX7_pushTerm_99 rfl (lv_at hl 1 rfl) ?_
                  refine j7_len hx hb hK hh_15 hB180 1 rfl (by decide) hg_r1 (by omega) dX7_pushTerm_100 (fun z_26 hz_26 => ?_)
                  refine va_calli (A0 := jA base) (H0 := s.heap) (va_runSN (As := [.ref r1, .int v6_15, .int z_26]) (rest := []) ⟨hx, hb, hml, hown, hts⟩ (uX11_endOf l dC dI ca base B hB hAp hB180 G0 H_15 r1 v6_15 z_26 n1) ⟨va_cnB 3 hts (jgW (jWr_32 _ (List.mem_of_getElem? (i := 4) rfl))) rfl rfl rfl (hG.2.2.1 RX7 144 yX11_endOf "ProofServer" (List.mem_of_getElem? (i := 994) (by decide +kernel))) (htw (.initialized RX11) (jWr_1 _ (List.mem_of_getElem? (i := 2) rfl))) (by decide +kernel) ⟨by rw [← hR]; exact Nat.le_of_ble_eq_true rfl, by rw [← hR]; exact Nat.le_of_ble_eq_true rfl⟩, htw (.static yX11_endOf) (jWr_32 _ (List.mem_of_getElem? (i := 3) rfl)), trivial⟩ ⟨fun a U g mk q => by obtain ⟨q0, q1, q2, qK, q10, q11, q12⟩ := q; exact ⟨q0, q1, q2, jG.calling g mk a qK, q10, q11, q12⟩, fun U hU hW => ⟨rfl, hU, hh_15.2.1, hG.step hW hU hh_15.1, hg_r1, jP.nil, by first | omega | (refine ⟨?_, ?_, ?_⟩ <;> (first | omega | rfl | assumption | decide | exact Or.inl rfl | exact Or.inr rfl | (simp only; omega)))⟩⟩ rfl rfl hl.1 rfl (lv_room (Nat.le_of_ble_eq_true rfl)) dX7_pushTerm_101 ⟨Nat.zero_le _, Nat.zero_le _⟩) hh_15.1 (fun q _ h => h) (fun q h => h) (fun r_28 u_27 t_27 H_27 locs_27 ht_27 hvm_27 hr_28 hb_27 hz_27 hk_27 hS_27 => ?_)
                  rw [ht_27] at hb_27
                  obtain ⟨hb_271, hb_272, hb_273, hb_274, hb_275⟩ := hb_27
                  have hh_27 : jSt (dC, dI) B base G0 G0 EX7_pushTerm s.heap 0 0 [] [] [] H_27 locs_27 := ((hh_15.call hb_271 hb_272 hb_273 hb_274 hS_27 rfl (L1 := []) [] rfl rfl (M1 := []) [] rfl rfl (I1 := []) [] rfl rfl).more hb_275)
                  clear hh_15 ht_27 hvm_27 hz_27 hk_27 hS_27 hb_271 hb_272 hb_273 hb_274 hb_275
                  obtain ⟨hr_28_0, hr_28_1⟩ := hr_28
                  refine lv_istore (lv' := [(6, .int r_28), (0, .ref r0), (1, .ref r1), (2, .int a2), (3, .int z_2), (4, .int z_8), (5, .int v5_10), (7, .int v7_15)]) hx hb dX7_pushTerm_104 hl (by decide) rfl (fun ls hl => ?_)
                  obtain ⟨z_29, ez_29⟩ : ∃ y : Int32, y = v7_15 + 1 := ⟨_, rfl⟩
                  refine lv_iinc (v := z_29) (lv' := [(7, .int z_29), (6, .int r_28), (0, .ref r0), (1, .ref r1), (2, .int a2), (3, .int z_2), (4, .int z_8), (5, .int v5_10)]) hx hb dX7_pushTerm_106 hl (k := 7) rfl (by rw [ez_29]; rfl) (by decide) rfl (fun ls hl => ?_)
                  have hz_29 : z_29.toInt = v7_15.toInt + 1 := by rw [ez_29]; exact jb_iadd2 (rfl) (by decide) (by omega)
                  refine lv_goto (tgt := 89) hx hb dX7_pushTerm_109 (by decide) ?_
                  exact L89 r_28 z_29 _ _ hh_27 (by first | omega | (refine ⟨?_, ?_, ?_, ?_⟩ <;> (first | omega | rfl | assumption | decide | exact Or.inl rfl | exact Or.inr rfl | (simp only; omega)))) (by omega) _ (lv_sub hl [2, 3, 4, 5, 6, 7, 1, 0] rfl)
            exact L89 (((v5_10.toInt - (1 : Int32).toInt).toNat : Int) : Int).toNat.succ z_14 1 _ _ hh_10 (by first | omega | (refine ⟨?_, ?_, ?_, ?_⟩ <;> (first | omega | rfl | assumption | decide | exact Or.inl rfl | exact Or.inr rfl | (simp only; omega)))) (by omega) _ (lv_sub hl [2, 3, 4, 5, 6, 7, 1, 0] rfl)
      exact L76 ((z_8 : Int32).toInt : Int).toNat.succ z_8 _ _ hh_9 (by first | omega | (refine ⟨?_, ?_⟩ <;> (first | omega | rfl | assumption | decide | exact Or.inl rfl | exact Or.inr rfl | (simp only; omega)))) (by omega) _ (lv_sub hl [1, 2, 3, 4, 5, 0] rfl)
    refine lv_if_le (tgt := 72) hx hb dX7_pushTerm_62 (by decide) (fun c_30 => ?_) (fun c_30 => ?_)
    · skip
      have c_30' : z_8.toInt ≤ 0 := jb_le (rfl) ((by decide)) c_30
      exact C72  _ _ hh (trivial) _ (lv_sub hl [2, 3, 4, 1, 0] rfl)
    · skip
      have c_30' : z_8.toInt > 0 := jb_le_n (rfl) ((by decide)) c_30
      refine lv_aload_n hx hb dX7_pushTerm_65 rfl (lv_at hl 2 rfl) ?_
      refine lv_iconst (v := 0) hx hb dX7_pushTerm_66 (by decide) ?_
      refine lv_bipush (v := 16) hx hb dX7_pushTerm_67 (by decide) ?_
      refine va_callv (A0 := jA base) (H0 := s.heap) (va_runV (As := [.int 0, .int 16]) (rest := []) ⟨hx, hb, hml, hown, hts⟩ (uX7_push l dC dI ca base B hB hAp hB9 hB182 G0 s.heap r0 0 16) (cwV 2 hts (jgV (jWr_31 _ (List.mem_of_getElem? (i := 9) rfl)) (jWr_31 _ (List.mem_of_getElem? (i := 10) rfl)) (jWr_31 _ (List.mem_of_getElem? (i := 11) rfl)) (jWr_2 _ (List.mem_of_getElem? (i := 8) rfl)) (jWr_31 _ (List.mem_of_getElem? (i := 12) rfl))) rfl rfl rfl (by decide +kernel) ⟨by rw [← hR]; exact Nat.le_of_ble_eq_true rfl, by rw [← hR]; exact Nat.le_of_ble_eq_true rfl⟩) ⟨fun a U g mk q => by obtain ⟨q0, q1, q2, qK, q10, q11, q12⟩ := q; exact ⟨q0, q1, q2, jG.calling g mk a qK, q10, q11, q12⟩, hh.recv (C := RX7) (T := TX7) (N := 5) hB9 rfl (by decide) hg_r0 hK, fun U hU hW => ⟨rfl, hU, hh.2.1, hG.step hW hU hh.1, hg_r0, jP.nil, trivial⟩⟩ rfl rfl hl.1 rfl (lv_room (Nat.le_of_ble_eq_true rfl)) dX7_pushTerm_69 ⟨Nat.zero_le _, Nat.zero_le _⟩) hh.1 (fun q _ h => h) (fun q h => h) (fun u_31 t_31 H_31 locs_31 ht_31 hvm_31 hr_32 hb_31 hz_31 hk_31 hS_31 => ?_)
      rw [ht_31] at hb_31
      obtain ⟨hb_311, hb_312, hb_313, hb_314, hb_315⟩ := hb_31
      have hh_31 : jSt (dC, dI) B base G0 G0 EX7_pushTerm s.heap 0 0 [] [] [] H_31 locs_31 := ((hh.call hb_311 hb_312 hb_313 hb_314 hS_31 rfl (L1 := []) [] rfl rfl (M1 := []) [] rfl rfl (I1 := []) [] rfl rfl).more hb_315)
      clear hh ht_31 hvm_31 hz_31 hk_31 hS_31 hb_311 hb_312 hb_313 hb_314 hb_315
      exact C72  _ _ hh_31 (trivial) _ (lv_sub hl [2, 3, 4, 1, 0] rfl)
  · skip
    have c_5' : z_4.toInt = 10 := jb_ne_n (rfl) ((by decide)) c_5
    refine lv_iload_n hx hb dX7_pushTerm_18 rfl (lv_at hl 0 rfl) ?_
    refine lv_aload_n hx hb dX7_pushTerm_19 rfl (lv_at hl 1 rfl) ?_
    obtain ⟨v_33, hv_33, hh_34⟩ := hh.pin (C := RX7) (T := TX7) (N := 5) hB9 rfl (by decide) hg_r0 (i := 3) (by decide) rfl
    clear hh
    obtain ⟨boundNames_35, rfl, hg_boundNames_35⟩ := hv_33
    refine j7_read hx hb hown hK (C := RX7) (T := TX7) (N := 5) rfl hly_9_3 hlk_15 (hh_34.at 0 rfl) dX7_pushTerm_20 ?_
    refine j7_len hx hb hK hh_34 hB183 1 rfl (by decide) hg_boundNames_35 (by omega) dX7_pushTerm_23 (fun z_36 hz_36 => ?_)
    refine lv_icmp_ge (tgt := 48) hx hb dX7_pushTerm_24 (by decide) (fun c_37 => ?_) (fun c_37 => ?_)
    · skip
      have c_37' : z_2.toInt ≥ z_36.toInt := jb_ge (rfl) (rfl) c_37
      rw [hQ]
      exact W.vret hx hb hr (fun t ht hW => ⟨⟨(), rfl, trivial, hh_34.rt (M1 := []) [] rfl ht⟩, by rw [ht]; try exact hh_34.1.1, fun q h9 hq => by rw [ht]; try exact hh_34.1.2.1 q h9 hq⟩) hh_34.1.2.2 dX7_pushTerm_48
    · skip
      have c_37' : z_2.toInt < z_36.toInt := jb_ge_n (rfl) (rfl) c_37
      refine lv_aload_n hx hb dX7_pushTerm_27 rfl (lv_at hl 1 rfl) ?_
      refine lv_iconst (v := 1) hx hb dX7_pushTerm_28 (by decide) ?_
      refine lv_aload_n hx hb dX7_pushTerm_29 rfl (lv_at hl 1 rfl) ?_
      refine j7_read hx hb hown hK (C := RX7) (T := TX7) (N := 5) rfl hly_9_3 hlk_15 (hh_34.at 0 rfl) dX7_pushTerm_30 ?_
      refine lv_iload_n hx hb dX7_pushTerm_33 rfl (lv_at hl 0 rfl) ?_
      refine j7_iald hx hb hK hh_34 hB183 1 rfl (by decide) hg_boundNames_35 (x := z_2.toInt) (rfl) (by omega) dX7_pushTerm_34 (fun z_38 (hz_38 : 0 ≤ z_38.toInt) => ?_)
      refine lv_aload_n hx hb dX7_pushTerm_35 rfl (lv_at hl 1 rfl) ?_
      obtain ⟨v_39, hv_39, hh_40⟩ := hh_34.pin (C := RX7) (T := TX7) (N := 5) hB9 rfl (by decide) hg_r0 (i := 4) (by decide) rfl
      clear hh_34
      obtain ⟨boundMore_41, rfl, hg_boundMore_41⟩ := hv_39
      refine j7_read hx hb hown hK (C := RX7) (T := TX7) (N := 5) rfl hly_9_4 hlk_18 (hh_40.at 0 rfl) dX7_pushTerm_36 ?_
      refine lv_iload_n hx hb dX7_pushTerm_39 rfl (lv_at hl 0 rfl) ?_
      refine j7_iald hx hb hK hh_40 hB184 1 rfl (by decide) hg_boundMore_41 (x := z_2.toInt) (rfl) (by omega) dX7_pushTerm_40 (fun z_42 (hz_42 : True) => ?_)
      refine lv_bipush (v := 17) hx hb dX7_pushTerm_41 (by decide) ?_
      refine lv_ishl hx hb dX7_pushTerm_43 ?_
      refine lv_topi (fun z_43 ez_43 => ?_)
      refine lv_ior hx hb dX7_pushTerm_44 ?_
      refine lv_topi (fun z_44 ez_44 => ?_)
      refine va_callv (A0 := jA base) (H0 := s.heap) (va_runV (As := [.int 1, .int z_44]) (rest := []) ⟨hx, hb, hml, hown, hts⟩ (uX7_push l dC dI ca base B hB hAp hB9 hB182 G0 s.heap r0 1 z_44) (cwV 2 hts (jgV (jWr_31 _ (List.mem_of_getElem? (i := 9) rfl)) (jWr_31 _ (List.mem_of_getElem? (i := 10) rfl)) (jWr_31 _ (List.mem_of_getElem? (i := 11) rfl)) (jWr_2 _ (List.mem_of_getElem? (i := 8) rfl)) (jWr_31 _ (List.mem_of_getElem? (i := 12) rfl))) rfl rfl rfl (by decide +kernel) ⟨by rw [← hR]; exact Nat.le_of_ble_eq_true rfl, by rw [← hR]; exact Nat.le_of_ble_eq_true rfl⟩) ⟨fun a U g mk q => by obtain ⟨q0, q1, q2, qK, q10, q11, q12⟩ := q; exact ⟨q0, q1, q2, jG.calling g mk a qK, q10, q11, q12⟩, hh_40.recv (C := RX7) (T := TX7) (N := 5) hB9 rfl (by decide) hg_r0 hK, fun U hU hW => ⟨rfl, hU, hh_40.2.1, hG.step hW hU hh_40.1, hg_r0, jP.nil, trivial⟩⟩ rfl rfl hl.1 rfl (lv_room (Nat.le_of_ble_eq_true rfl)) dX7_pushTerm_45 ⟨Nat.zero_le _, Nat.zero_le _⟩) hh_40.1 (fun q _ h => h) (fun q h => h) (fun u_45 t_45 H_45 locs_45 ht_45 hvm_45 hr_46 hb_45 hz_45 hk_45 hS_45 => ?_)
      rw [ht_45] at hb_45
      obtain ⟨hb_451, hb_452, hb_453, hb_454, hb_455⟩ := hb_45
      have hh_45 : jSt (dC, dI) B base G0 G0 EX7_pushTerm s.heap 0 0 [(r0, 9, 4, .ref boundMore_41), (r0, 9, 3, .ref boundNames_35)] [] [] H_45 locs_45 := ((hh_40.call hb_451 hb_452 hb_453 hb_454 hS_45 rfl (L1 := [(r0, 9, 4, .ref boundMore_41), (r0, 9, 3, .ref boundNames_35)]) [0, 1] rfl rfl (M1 := []) [] rfl rfl (I1 := []) [] rfl rfl).more hb_455)
      clear hh_40 ht_45 hvm_45 hz_45 hk_45 hS_45 hb_451 hb_452 hb_453 hb_454 hb_455
      rw [hQ]
      exact W.vret hx hb hr (fun t ht hW => ⟨⟨(), rfl, trivial, hh_45.rt (M1 := []) [] rfl ht⟩, by rw [ht]; try exact hh_45.1.1, fun q h9 hq => by rw [ht]; try exact hh_45.1.2.1 q h9 hq⟩) hh_45.1.2.2 dX7_pushTerm_48
set_option maxHeartbeats 4000000 in
set_option maxRecDepth 20000 in
theorem uX7_isWrittenIn (l : Launch) (dC : Nat → ClassId) (dI : Nat → Nat → Nat) (ca : Nat → ClassId) (base : Nat) (B : jF) (hB : jBok B) (hAp : jAp (dC, dI)) (hB8 : ∀ n G a H, B 8 n G a H ↔ jOb (dC, dI) 8 4 (F8 n G) a H) (hB9 : ∀ n G a H, B 9 n G a H ↔ jOb (dC, dI) 9 5 (F9 n G) a H) (hB102 : ∀ n G a H, B 102 n G a H ↔ jAl (dC, dI) (ca 2) n a H) (hB132 : ∀ n G a H, B 132 n G a H ↔ jAr (dC, dI) (ca 1) (fun j z => 0 ≤ z.toInt ∧ z.toInt ≤ 10) n a H) (hB180 : ∀ n G a H, B 180 n G a H ↔ jAr (dC, dI) (ca 1) (fun j z => 0 ≤ z.toInt) n a H) (hB183 : ∀ n G a H, B 183 n G a H ↔ jAr (dC, dI) (ca 1) (fun j z => 0 ≤ z.toInt) n a H) (hB184 : ∀ n G a H, B 184 n G a H ↔ jAr (dC, dI) (ca 1) (fun j z => True) n a H) (G0 : jT) (H0 : Heap) (r0 : Nat) (r1 : Nat) (a2 : Int32) (a3 : Int32) (a4 : Int32) (n1 : Nat) : Met l yX7_isWrittenIn (jw yX7_isWrittenIn cX7_isWrittenIn 11 (some .boolean)) ({ frames := 0, cells := 0, slots := 0, locals := 0 }) (va_Pc [.ref r0, .ref r1, .int a2, .int a3, .int a4] (fun U => U.heap = H0 ∧ jX B base G0 [] H0 ∧ jG dC dI ca base U ∧ G0 r1 = some (180, n1) ∧ G0 r0 = some (9, 0) ∧ jP (dC, dI) G0 H0 [] ∧ 0 ≤ a2.toInt ∧ a2.toInt ≤ 200000 ∧ n1 ≤ 100000 ∧ 0 ≤ a4.toInt ∧ a4.toInt ≤ 12)) (va_Qi (S := Unit) (fun r u => (r = 0 ∨ r = 1) ∧ (True)) (fun u t => jRt (dC, dI) B base G0 EX7_isWrittenIn H0 [] t.heap) (jA base)) 0 0 (jA base) := by
  refine Met.ofW (cc := cX7_isWrittenIn) (maxL := 11) (ret := (some .boolean)) (by decide) rfl ?_
  intro p e s m args below meth c s₁ Bd hml hv
  obtain ⟨rfl, hH0, hX, hG, hg_r1, hg_r0, hP0, hp0, hp1, hp2, hp3, hp4⟩ := hv
  have hK := hG.1
  have hx := Bd.exec
  have hb := Bd.bytes
  have hr := Bd.returns
  have hts := atoms_spec (ws := (jw yX7_isWrittenIn cX7_isWrittenIn 11 (some .boolean))) Bd.pre
  have htw : ∀ w ∈ jWl, w.before _ s = true := fun w h => hts w (List.mem_cons_of_mem _ h)
  have hown : s.vm.findClass RX7 = some m.cls := findClass_of_methodNamed Bd.named
  have hlocks := Bd.notSynchronized
  obtain ⟨Q, hQ⟩ : ∃ Q, Q = MQ below (va_Qi (S := Unit) (fun r u => (r = 0 ∨ r = 1) ∧ (True)) (fun u t => jRt (dC, dI) B base G0 EX7_isWrittenIn H0 [] t.heap) (jA base)) ([.ref r0, .ref r1, .int a2, .int a3, .int a4] : List Value).toArray s 0 0 (jA base) := ⟨_, rfl⟩
  rw [← hQ]
  have hl := lv_entry ([.ref r0, .ref r1, .int a2, .int a3, .int a4]) (n := 11) (Nat.le_of_ble_eq_true rfl)
  rw [lg_entry_eq]
  generalize (lg_sl ([.ref r0, .ref r1, .int a2, .int a3, .int a4]) ++ List.replicate (11 - (lg_sl ([.ref r0, .ref r1, .int a2, .int a3, .int a4])).length) Slot.unset).toArray = ls at hl ⊢
  have hl : lv_has ls 11 [(0, .ref r0), (1, .ref r1), (2, .int a2), (3, .int a3), (4, .int a4)] := hl
  generalize hR : (headSpec (jw yX7_isWrittenIn cX7_isWrittenIn 11 (some .boolean)) ({ frames := 0, cells := 0, slots := 0, locals := 0 })).room = R
  subst hH0
  have hh : jSt (dC, dI) B base G0 G0 EX7_isWrittenIn s.heap 0 0 [] [] [] s.heap [] := jSt.start hX hP0 jMc.nil jIs.nil
  clear hX hP0
  have hk0 : (0 : Int32).toInt = 0 := by decide
  have hk1 : (1 : Int32).toInt = 1 := by decide
  have hk7 : (7 : Int32).toInt = 7 := by decide
  have hk8 : (8 : Int32).toInt = 8 := by decide
  have hk9 : (9 : Int32).toInt = 9 := by decide
  have hk10 : (10 : Int32).toInt = 10 := by decide
  have hk15 : (15 : Int32).toInt = 15 := by decide
  have hly_8_0 := htw (u_lay RX6 TX6 0) (jWc_wsX60 _ (u_in_lay (by decide)))
  have hly_8_1 := htw (u_lay RX6 TX6 1) (jWc_wsX60 _ (u_in_lay (by decide)))
  have hly_8_3 := htw (u_lay RX6 TX6 3) (jWc_wsX60 _ (u_in_lay (by decide)))
  have hly_9_0 := htw (u_lay RX7 TX7 0) (jWc_wsX70 _ (u_in_lay (by decide)))
  have hly_9_3 := htw (u_lay RX7 TX7 3) (jWc_wsX70 _ (u_in_lay (by decide)))
  have hly_9_4 := htw (u_lay RX7 TX7 4) (jWc_wsX70 _ (u_in_lay (by decide)))
  have hlk_15 := (htw (.fieldLink RX7 15 "ProofServer$Printer" "boundNames" "[I") (jWr_9 _ (List.mem_of_getElem? (i := 8) rfl)))
  have hlk_21 := (htw (.fieldLink RX7 21 "ProofServer$Printer" "names" "LProofServer$Names;") (jWr_9 _ (List.mem_of_getElem? (i := 10) rfl)))
  have hlk_152 := (htw (.fieldLink RX7 152 "ProofServer$Names" "count" "I") (jWr_32 _ (List.mem_of_getElem? (i := 9) rfl)))
  have hlk_18 := (htw (.fieldLink RX7 18 "ProofServer$Printer" "boundMore" "[I") (jWr_9 _ (List.mem_of_getElem? (i := 9) rfl)))
  have hlk_155 := (htw (.fieldLink RX7 155 "ProofServer$Names" "stems" "[J") (jWr_32 _ (List.mem_of_getElem? (i := 10) rfl)))
  have hlk_159 := (htw (.fieldLink RX7 159 "ProofServer$Names" "primes" "[I") (jWr_32 _ (List.mem_of_getElem? (i := 11) rfl)))
  have hrg_a2 := jb_rng a2
  have hrg_a3 := jb_rng a3
  have hrg_a4 := jb_rng a4
  refine lv_aload_n hx hb dX7_isWrittenIn_0 rfl (lv_at hl 0 rfl) ?_
  obtain ⟨v_1, hv_1, hh_2⟩ := hh.pin (C := RX7) (T := TX7) (N := 5) hB9 rfl (by decide) hg_r0 (i := 3) (by decide) rfl
  clear hh
  obtain ⟨boundNames_3, rfl, hg_boundNames_3⟩ := hv_1
  refine j7_read hx hb hown hK (C := RX7) (T := TX7) (N := 5) rfl hly_9_3 hlk_15 (hh_2.at 0 rfl) dX7_isWrittenIn_1 ?_
  refine lv_iload hx hb dX7_isWrittenIn_4 (lv_at hl 4 rfl) ?_
  refine j7_iald hx hb hK hh_2 hB183 1 rfl (by decide) hg_boundNames_3 (x := a4.toInt) (rfl) (by omega) dX7_isWrittenIn_6 (fun z_4 (hz_4 : 0 ≤ z_4.toInt) => ?_)
  refine lv_istore (lv' := [(5, .int z_4), (0, .ref r0), (1, .ref r1), (2, .int a2), (3, .int a3), (4, .int a4)]) hx hb dX7_isWrittenIn_7 hl (by decide) rfl (fun ls hl => ?_)
  refine lv_iload_n hx hb dX7_isWrittenIn_9 rfl (lv_at hl 3 rfl) ?_
  refine lv_istore (lv' := [(6, .int a2), (5, .int z_4), (0, .ref r0), (1, .ref r1), (2, .int a2), (3, .int a3), (4, .int a4)]) hx hb dX7_isWrittenIn_10 hl (by decide) rfl (fun ls hl => ?_)
  have L12 : ∀ (N : Nat) (v6_5 : Int32) (H_5 : Heap) (locs_5 : List Loc), jSt (dC, dI) B base G0 G0 EX7_isWrittenIn s.heap 0 0 [(r0, 9, 3, .ref boundNames_3)] [] [] H_5 locs_5 → (0 ≤ v6_5.toInt ∧ v6_5.toInt ≤ 200000) → (((n1 - v6_5.toInt).toNat : Int) : Int) < N → ∀ ls : Array Slot, lv_has ls 11 [(0, .ref r0), (1, .ref r1), (2, .int a2), (3, .int a3), (4, .int a4), (5, .int z_4), (6, .int v6_5)] → W p l e R s m ([.ref r0, .ref r1, .int a2, .int a3, .int a4] : List Value).toArray below meth c H_5 locs_5 0 0 Q (F0 m 12 ls []) := by
    intro N
    induction N with
    | zero => intro v6_5 H_5 locs_5 hh_5  hi_5 hm; exact absurd hm (by omega)
    | succ N L12 =>
      intro v6_5 H_5 locs_5 hh_5  hi_5 hm_5 ls hl
      obtain ⟨hi_5_0, hi_5_1⟩ := hi_5
      refine lv_iload hx hb dX7_isWrittenIn_12 (lv_at hl 6 rfl) ?_
      refine lv_iload_n hx hb dX7_isWrittenIn_14 rfl (lv_at hl 3 rfl) ?_
      refine lv_icmp_ge (tgt := 204) hx hb dX7_isWrittenIn_15 (by decide) (fun c_6 => ?_) (fun c_6 => ?_)
      · skip
        have c_6' : v6_5.toInt ≥ a3.toInt := jb_ge (rfl) (rfl) c_6
        refine lv_iconst (v := 0) hx hb dX7_isWrittenIn_204 (by decide) ?_
        rw [hQ]
        exact W.zret (v := 0) hx hb hr (jb_nz (Or.inl rfl)) (fun t ht hW => ⟨⟨0, (), rfl, ⟨(Or.inl rfl), trivial⟩, hh_5.rt (M1 := []) [] rfl ht⟩, by rw [ht]; try exact hh_5.1.1, fun q h9 hq => by rw [ht]; try exact hh_5.1.2.1 q h9 hq⟩) hh_5.1.2.2 dX7_isWrittenIn_205
      · skip
        have c_6' : v6_5.toInt < a3.toInt := jb_ge_n (rfl) (rfl) c_6
        refine lv_iload hx hb dX7_isWrittenIn_18 (lv_at hl 6 rfl) ?_
        refine lv_aload_n hx hb dX7_isWrittenIn_20 rfl (lv_at hl 1 rfl) ?_
        refine j7_len hx hb hK hh_5 hB180 1 rfl (by decide) hg_r1 (by omega) dX7_isWrittenIn_21 (fun z_7 hz_7 => ?_)
        refine lv_icmp_ge (tgt := 204) hx hb dX7_isWrittenIn_22 (by decide) (fun c_8 => ?_) (fun c_8 => ?_)
        · skip
          have c_8' : v6_5.toInt ≥ z_7.toInt := jb_ge (rfl) (rfl) c_8
          refine lv_iconst (v := 0) hx hb dX7_isWrittenIn_204 (by decide) ?_
          rw [hQ]
          exact W.zret (v := 0) hx hb hr (jb_nz (Or.inl rfl)) (fun t ht hW => ⟨⟨0, (), rfl, ⟨(Or.inl rfl), trivial⟩, hh_5.rt (M1 := []) [] rfl ht⟩, by rw [ht]; try exact hh_5.1.1, fun q h9 hq => by rw [ht]; try exact hh_5.1.2.1 q h9 hq⟩) hh_5.1.2.2 dX7_isWrittenIn_205
        · skip
          have c_8' : v6_5.toInt < z_7.toInt := jb_ge_n (rfl) (rfl) c_8
          refine lv_iload hx hb dX7_isWrittenIn_25 (lv_at hl 5 rfl) ?_
          refine lv_aload_n hx hb dX7_isWrittenIn_27 rfl (lv_at hl 0 rfl) ?_
          obtain ⟨v_9, hv_9, hh_10⟩ := hh_5.pin (C := RX7) (T := TX7) (N := 5) hB9 rfl (by decide) hg_r0 (i := 0) (by decide) rfl
          clear hh_5
          obtain ⟨names_11, rfl, hg_names_11⟩ := hv_9
          refine j7_read hx hb hown hK (C := RX7) (T := TX7) (N := 5) rfl hly_9_0 hlk_21 (hh_10.at 0 rfl) dX7_isWrittenIn_28 ?_
          obtain ⟨v_12, hv_12, hh_13⟩ := hh_10.pin (C := RX6) (T := TX6) (N := 4) hB8 rfl (by decide) hg_names_11 (i := 3) (by decide) rfl
          clear hh_10
          obtain ⟨count_14, rfl, hlocount_14, hhicount_14⟩ := hv_12
          refine j7_read hx hb hown hK (C := RX6) (T := TX6) (N := 4) rfl hly_8_3 hlk_152 (hh_13.at 0 rfl) dX7_isWrittenIn_31 ?_
          refine lv_icmp_ge (tgt := 204) hx hb dX7_isWrittenIn_34 (by decide) (fun c_15 => ?_) (fun c_15 => ?_)
          · skip
            have c_15' : z_4.toInt ≥ count_14.toInt := jb_ge (rfl) (rfl) c_15
            refine lv_iconst (v := 0) hx hb dX7_isWrittenIn_204 (by decide) ?_
            rw [hQ]
            exact W.zret (v := 0) hx hb hr (jb_nz (Or.inl rfl)) (fun t ht hW => ⟨⟨0, (), rfl, ⟨(Or.inl rfl), trivial⟩, hh_13.rt (M1 := []) [] rfl ht⟩, by rw [ht]; try exact hh_13.1.1, fun q h9 hq => by rw [ht]; try exact hh_13.1.2.1 q h9 hq⟩) hh_13.1.2.2 dX7_isWrittenIn_205
          · skip
            have c_15' : z_4.toInt < count_14.toInt := jb_ge_n (rfl) (rfl) c_15
            refine lv_aload_n hx hb dX7_isWrittenIn_37 rfl (lv_at hl 1 rfl) ?_
            refine lv_iload hx hb dX7_isWrittenIn_38 (lv_at hl 6 rfl) ?_
            refine j7_iald hx hb hK hh_13 hB180 1 rfl (by decide) hg_r1 (x := v6_5.toInt) (rfl) (by omega) dX7_isWrittenIn_40 (fun z_16 (hz_16 : 0 ≤ z_16.toInt) => ?_)
            refine lv_bipush (v := 15) hx hb dX7_isWrittenIn_41 (by decide) ?_
            refine lv_iand hx hb dX7_isWrittenIn_43 ?_
            refine lv_topi (fun z_17 ez_17 => ?_)
            have hz_17 : 0 ≤ z_17.toInt ∧ z_17.toInt ≤ 15 := by rw [ez_17]; exact jb_and z_16 (m := 15) (k := 4) (by decide) (by decide)
            refine lv_istore (lv' := [(7, .int z_17), (0, .ref r0), (1, .ref r1), (2, .int a2), (3, .int a3), (4, .int a4), (5, .int z_4), (6, .int v6_5)]) hx hb dX7_isWrittenIn_44 hl (by decide) rfl (fun ls hl => ?_)
            refine lv_aload_n hx hb dX7_isWrittenIn_46 rfl (lv_at hl 2 rfl) ?_
            refine lv_iload hx hb dX7_isWrittenIn_47 (lv_at hl 7 rfl) ?_
            refine j7_iald hx hb hK hh_13 hB180 1 rfl (by decide) hg_r1 (x := v6_5.toInt) (rfl) (by omega) dX7_isWrittenIn_49 (fun z_18 (hz_18 : 0 ≤ z_18.toInt) => ?_)
            refine lv_bipush (v := 15) hx hb dX7_isWrittenIn_50 (by decide) ?_
            refine lv_ishr hx hb dX7_isWrittenIn_52 ?_
            refine lv_topi (fun z_19 ez_19 => ?_)
            have hz_19 : z_19.toInt = z_18.toInt / 2 ^ 15 := by rw [ez_19]; exact jb_ishr 15 (rfl) (by decide)
            refine lv_istore (lv' := [(8, .int z_19), (7, .int z_17), (0, .ref r0), (1, .ref r1), (2, .int a2), (3, .int a3), (4, .int a4), (5, .int z_4), (6, .int v6_5)]) hx hb dX7_isWrittenIn_53 hl (by decide) rfl (fun ls hl => ?_)
            refine lv_iconst (v := 0) hx hb dX7_isWrittenIn_55 (by decide) ?_
            refine lv_istore (lv' := [(9, .int 0), (8, .int z_19), (7, .int z_17), (0, .ref r0), (1, .ref r1), (2, .int a2), (3, .int a3), (4, .int a4), (5, .int z_4), (6, .int v6_5)]) hx hb dX7_isWrittenIn_56 hl (by decide) rfl (fun ls hl => ?_)
            refine lv_iload hx hb dX7_isWrittenIn_58 (lv_at hl 2 rfl) ?_
            refine lv_bipush (v := 7) hx hb dX7_isWrittenIn_60 (by decide) ?_
            have C84 : ∀ (w0_20 : Int32) (H_20 : Heap) (locs_20 : List Loc), jSt (dC, dI) B base G0 G0 EX7_isWrittenIn s.heap 0 0 [(names_11, 8, 3, .int count_14), (r0, 9, 0, .ref names_11), (r0, 9, 3, .ref boundNames_3)] [] [] H_20 locs_20 → (w0_20 = 0 ∨ w0_20 = 1) → (True) → ∀ ls : Array Slot, lv_has ls 11 [(0, .ref r0), (1, .ref r1), (2, .int a2), (3, .int a3), (4, .int a4), (5, .int z_4), (6, .int v6_5), (7, .int z_17), (8, .int z_19), (9, .int 0)] → W p l e R s m ([.ref r0, .ref r1, .int a2, .int a3, .int a4] : List Value).toArray below meth c H_20 locs_20 0 0 Q (F0 m 84 ls [.int w0_20]) := by
              intro w0_20 H_20 locs_20 hh_20 hb_w0_20 hi_20 ls hl
              have hb_w0_20' := jb_01 hb_w0_20
              refine lv_istore (lv' := [(10, .int w0_20), (0, .ref r0), (1, .ref r1), (2, .int a2), (3, .int a3), (4, .int a4), (5, .int z_4), (6, .int v6_5), (7, .int z_17), (8, .int z_19), (9, .int 0)]) hx hb dX7_isWrittenIn_84 hl (by decide) rfl (fun ls hl => ?_)
              refine lv_iload hx hb dX7_isWrittenIn_86 (lv_at hl 8 rfl) ?_
              refine lv_bipush (v := 10) hx hb dX7_isWrittenIn_88 (by decide) ?_
              have C121 : ∀ (v8_21 : Int32) (v9_21 : Int32) (v10_21 : Int32) (H_21 : Heap) (locs_21 : List Loc), jSt (dC, dI) B base G0 G0 EX7_isWrittenIn s.heap 0 0 [(names_11, 8, 3, .int count_14), (r0, 9, 0, .ref names_11), (r0, 9, 3, .ref boundNames_3)] [] [] H_21 locs_21 → (v10_21 = 0 ∨ v10_21 = 1) → (0 ≤ v8_21.toInt) → ∀ ls : Array Slot, lv_has ls 11 [(0, .ref r0), (1, .ref r1), (2, .int a2), (3, .int a3), (4, .int a4), (5, .int z_4), (6, .int v6_5), (7, .int z_17), (8, .int v8_21), (9, .int v9_21), (10, .int v10_21)] → W p l e R s m ([.ref r0, .ref r1, .int a2, .int a3, .int a4] : List Value).toArray below meth c H_21 locs_21 0 0 Q (F0 m 121 ls []) := by
                intro v8_21 v9_21 v10_21 H_21 locs_21 hh_21 hb_v10_21 hi_21 ls hl
                have hb_v10_21' := jb_01 hb_v10_21
                refine lv_iload hx hb dX7_isWrittenIn_121 (lv_at hl 10 rfl) ?_
                refine lv_if_eq (tgt := 198) hx hb dX7_isWrittenIn_123 (by decide) (fun c_22 => ?_) (fun c_22 => ?_)
                · skip
                  have c_22' : v10_21.toInt = 0 := jb_eq (rfl) ((by decide)) c_22
                  obtain ⟨z_23, ez_23⟩ : ∃ y : Int32, y = v6_5 + 1 := ⟨_, rfl⟩
                  refine lv_iinc (v := z_23) (lv' := [(6, .int z_23), (0, .ref r0), (1, .ref r1), (2, .int a2), (3, .int a3), (4, .int a4), (5, .int z_4), (7, .int z_17), (8, .int v8_21), (9, .int v9_21), (10, .int v10_21)]) hx hb dX7_isWrittenIn_198 hl (k := 6) rfl (by rw [ez_23]; rfl) (by decide) rfl (fun ls hl => ?_)
                  have hz_23 : z_23.toInt = v6_5.toInt + 1 := by rw [ez_23]; exact jb_iadd2 (rfl) (by decide) (by omega)
                  refine lv_goto (tgt := 12) hx hb dX7_isWrittenIn_201 (by decide) ?_
                  exact L12 z_23 _ _ (hh_21.sub (L1 := [(r0, 9, 3, .ref boundNames_3)]) [2] rfl (M1 := []) [] rfl (I1 := []) [] rfl) (by first | omega | (refine ⟨?_, ?_⟩ <;> (first | omega | rfl | assumption | decide | exact Or.inl rfl | exact Or.inr rfl | (simp only; omega)))) (by omega) _ (lv_sub hl [1, 2, 3, 4, 5, 6, 0] rfl)
                · skip
                  have c_22' : v10_21.toInt ≠ 0 := jb_eq_n (rfl) ((by decide)) c_22
                  refine lv_iload hx hb dX7_isWrittenIn_126 (lv_at hl 8 rfl) ?_
                  refine lv_aload_n hx hb dX7_isWrittenIn_128 rfl (lv_at hl 0 rfl) ?_
                  refine j7_read hx hb hown hK (C := RX7) (T := TX7) (N := 5) rfl hly_9_0 hlk_21 (hh_21.at 1 rfl) dX7_isWrittenIn_129 ?_
                  refine j7_read hx hb hown hK (C := RX6) (T := TX6) (N := 4) rfl hly_8_3 hlk_152 (hh_21.at 0 rfl) dX7_isWrittenIn_132 ?_
                  refine lv_icmp_ge (tgt := 198) hx hb dX7_isWrittenIn_135 (by decide) (fun c_24 => ?_) (fun c_24 => ?_)
                  · skip
                    have c_24' : v8_21.toInt ≥ count_14.toInt := jb_ge (rfl) (rfl) c_24
                    obtain ⟨z_25, ez_25⟩ : ∃ y : Int32, y = v6_5 + 1 := ⟨_, rfl⟩
                    refine lv_iinc (v := z_25) (lv' := [(6, .int z_25), (0, .ref r0), (1, .ref r1), (2, .int a2), (3, .int a3), (4, .int a4), (5, .int z_4), (7, .int z_17), (8, .int v8_21), (9, .int v9_21), (10, .int v10_21)]) hx hb dX7_isWrittenIn_198 hl (k := 6) rfl (by rw [ez_25]; rfl) (by decide) rfl (fun ls hl => ?_)
                    have hz_25 : z_25.toInt = v6_5.toInt + 1 := by rw [ez_25]; exact jb_iadd2 (rfl) (by decide) (by omega)
                    refine lv_goto (tgt := 12) hx hb dX7_isWrittenIn_201 (by decide) ?_
                    exact L12 z_25 _ _ (hh_21.sub (L1 := [(r0, 9, 3, .ref boundNames_3)]) [2] rfl (M1 := []) [] rfl (I1 := []) [] rfl) (by first | omega | (refine ⟨?_, ?_⟩ <;> (first | omega | rfl | assumption | decide | exact Or.inl rfl | exact Or.inr rfl | (simp only; omega)))) (by omega) _ (lv_sub hl [1, 2, 3, 4, 5, 6, 0] rfl)
                  · skip
                    have c_24' : v8_21.toInt < count_14.toInt := jb_ge_n (rfl) (rfl) c_24
                    refine lv_aload_n hx hb dX7_isWrittenIn_138 rfl (lv_at hl 0 rfl) ?_
                    refine j7_read hx hb hown hK (C := RX7) (T := TX7) (N := 5) rfl hly_9_0 hlk_21 (hh_21.at 1 rfl) dX7_isWrittenIn_139 ?_
                    obtain ⟨v_26, hv_26, hh_27⟩ := hh_21.pin (C := RX6) (T := TX6) (N := 4) hB8 rfl (by decide) hg_names_11 (i := 0) (by decide) rfl
                    clear hh_21
                    obtain ⟨stems_28, rfl, hg_stems_28⟩ := hv_26
                    refine j7_read hx hb hown hK (C := RX6) (T := TX6) (N := 4) rfl hly_8_0 hlk_155 (hh_27.at 0 rfl) dX7_isWrittenIn_142 ?_
                    refine lv_iload hx hb dX7_isWrittenIn_145 (lv_at hl 8 rfl) ?_
                    refine j7_lald hx hb hK hh_27 hB102 2 rfl (by decide) hg_stems_28 (x := v8_21.toInt) (rfl) (by omega) dX7_isWrittenIn_147 (fun z_29 => ?_)
                    refine lv_aload_n hx hb dX7_isWrittenIn_148 rfl (lv_at hl 0 rfl) ?_
                    refine j7_read hx hb hown hK (C := RX7) (T := TX7) (N := 5) rfl hly_9_0 hlk_21 (hh_27.at 2 rfl) dX7_isWrittenIn_149 ?_
                    refine j7_read hx hb hown hK (C := RX6) (T := TX6) (N := 4) rfl hly_8_0 hlk_155 (hh_27.at 0 rfl) dX7_isWrittenIn_152 ?_
                    refine lv_iload hx hb dX7_isWrittenIn_155 (lv_at hl 5 rfl) ?_
                    refine j7_lald hx hb hK hh_27 hB102 2 rfl (by decide) hg_stems_28 (x := z_4.toInt) (rfl) (by omega) dX7_isWrittenIn_157 (fun z_30 => ?_)
                    refine W.lcmp hx hb dX7_isWrittenIn_158 ?_
                    refine lv_topi (fun z_31 ez_31 => ?_)
                    have hz_31 := jb_lcmp ez_31
                    refine lv_if_ne (tgt := 198) hx hb dX7_isWrittenIn_159 (by decide) (fun c_32 => ?_) (fun c_32 => ?_)
                    · skip
                      have c_32' : z_31.toInt ≠ 0 := jb_ne (rfl) ((by decide)) c_32
                      obtain ⟨z_33, ez_33⟩ : ∃ y : Int32, y = v6_5 + 1 := ⟨_, rfl⟩
                      refine lv_iinc (v := z_33) (lv' := [(6, .int z_33), (0, .ref r0), (1, .ref r1), (2, .int a2), (3, .int a3), (4, .int a4), (5, .int z_4), (7, .int z_17), (8, .int v8_21), (9, .int v9_21), (10, .int v10_21)]) hx hb dX7_isWrittenIn_198 hl (k := 6) rfl (by rw [ez_33]; rfl) (by decide) rfl (fun ls hl => ?_)
                      have hz_33 : z_33.toInt = v6_5.toInt + 1 := by rw [ez_33]; exact jb_iadd2 (rfl) (by decide) (by omega)
                      refine lv_goto (tgt := 12) hx hb dX7_isWrittenIn_201 (by decide) ?_
                      exact L12 z_33 _ _ (hh_27.sub (L1 := [(r0, 9, 3, .ref boundNames_3)]) [3] rfl (M1 := []) [] rfl (I1 := []) [] rfl) (by first | omega | (refine ⟨?_, ?_⟩ <;> (first | omega | rfl | assumption | decide | exact Or.inl rfl | exact Or.inr rfl | (simp only; omega)))) (by omega) _ (lv_sub hl [1, 2, 3, 4, 5, 6, 0] rfl)
                    · skip
                      have c_32' : z_31.toInt = 0 := jb_ne_n (rfl) ((by decide)) c_32
                      refine lv_aload_n hx hb dX7_isWrittenIn_162 rfl (lv_at hl 0 rfl) ?_
                      refine j7_read hx hb hown hK (C := RX7) (T := TX7) (N := 5) rfl hly_9_0 hlk_21 (hh_27.at 2 rfl) dX7_isWrittenIn_163 ?_
                      obtain ⟨v_34, hv_34, hh_35⟩ := hh_27.pin (C := RX6) (T := TX6) (N := 4) hB8 rfl (by decide) hg_names_11 (i := 1) (by decide) rfl
                      clear hh_27
                      obtain ⟨primes_36, rfl, hg_primes_36⟩ := hv_34
                      refine j7_read hx hb hown hK (C := RX6) (T := TX6) (N := 4) rfl hly_8_1 hlk_159 (hh_35.at 0 rfl) dX7_isWrittenIn_166 ?_
                      refine lv_iload hx hb dX7_isWrittenIn_169 (lv_at hl 8 rfl) ?_
                      refine j7_iald hx hb hK hh_35 hB132 1 rfl (by decide) hg_primes_36 (x := v8_21.toInt) (rfl) (by omega) dX7_isWrittenIn_171 (fun z_37 (hz_37 : 0 ≤ z_37.toInt ∧ z_37.toInt ≤ 10) => ?_)
                      refine lv_iload hx hb dX7_isWrittenIn_172 (lv_at hl 9 rfl) ?_
                      refine lv_iadd hx hb dX7_isWrittenIn_174 ?_
                      refine lv_topi (fun z_38 ez_38 => ?_)
                      refine lv_aload_n hx hb dX7_isWrittenIn_175 rfl (lv_at hl 0 rfl) ?_
                      refine j7_read hx hb hown hK (C := RX7) (T := TX7) (N := 5) rfl hly_9_0 hlk_21 (hh_35.at 3 rfl) dX7_isWrittenIn_176 ?_
                      refine j7_read hx hb hown hK (C := RX6) (T := TX6) (N := 4) rfl hly_8_1 hlk_159 (hh_35.at 0 rfl) dX7_isWrittenIn_179 ?_
                      refine lv_iload hx hb dX7_isWrittenIn_182 (lv_at hl 5 rfl) ?_
                      refine j7_iald hx hb hK hh_35 hB132 1 rfl (by decide) hg_primes_36 (x := z_4.toInt) (rfl) (by omega) dX7_isWrittenIn_184 (fun z_39 (hz_39 : 0 ≤ z_39.toInt ∧ z_39.toInt ≤ 10) => ?_)
                      refine lv_aload_n hx hb dX7_isWrittenIn_185 rfl (lv_at hl 0 rfl) ?_
                      obtain ⟨v_40, hv_40, hh_41⟩ := hh_35.pin (C := RX7) (T := TX7) (N := 5) hB9 rfl (by decide) hg_r0 (i := 4) (by decide) rfl
                      clear hh_35
                      obtain ⟨boundMore_42, rfl, hg_boundMore_42⟩ := hv_40
                      refine j7_read hx hb hown hK (C := RX7) (T := TX7) (N := 5) rfl hly_9_4 hlk_18 (hh_41.at 0 rfl) dX7_isWrittenIn_186 ?_
                      refine lv_iload hx hb dX7_isWrittenIn_189 (lv_at hl 4 rfl) ?_
                      refine j7_iald hx hb hK hh_41 hB184 1 rfl (by decide) hg_boundMore_42 (x := a4.toInt) (rfl) (by omega) dX7_isWrittenIn_191 (fun z_43 (hz_43 : True) => ?_)
                      refine lv_iadd hx hb dX7_isWrittenIn_192 ?_
                      refine lv_topi (fun z_44 ez_44 => ?_)
                      refine lv_icmp_ne (tgt := 198) hx hb dX7_isWrittenIn_193 (by decide) (fun c_45 => ?_) (fun c_45 => ?_)
                      · skip
                        have c_45' : z_38.toInt ≠ z_44.toInt := jb_ne (rfl) (rfl) c_45
                        obtain ⟨z_46, ez_46⟩ : ∃ y : Int32, y = v6_5 + 1 := ⟨_, rfl⟩
                        refine lv_iinc (v := z_46) (lv' := [(6, .int z_46), (0, .ref r0), (1, .ref r1), (2, .int a2), (3, .int a3), (4, .int a4), (5, .int z_4), (7, .int z_17), (8, .int v8_21), (9, .int v9_21), (10, .int v10_21)]) hx hb dX7_isWrittenIn_198 hl (k := 6) rfl (by rw [ez_46]; rfl) (by decide) rfl (fun ls hl => ?_)
                        have hz_46 : z_46.toInt = v6_5.toInt + 1 := by rw [ez_46]; exact jb_iadd2 (rfl) (by decide) (by omega)
                        refine lv_goto (tgt := 12) hx hb dX7_isWrittenIn_201 (by decide) ?_
                        exact L12 z_46 _ _ (hh_41.sub (L1 := [(r0, 9, 3, .ref boundNames_3)]) [5] rfl (M1 := []) [] rfl (I1 := []) [] rfl) (by first | omega | (refine ⟨?_, ?_⟩ <;> (first | omega | rfl | assumption | decide | exact Or.inl rfl | exact Or.inr rfl | (simp only; omega)))) (by omega) _ (lv_sub hl [1, 2, 3, 4, 5, 6, 0] rfl)
                      · skip
                        have c_45' : z_38.toInt = z_44.toInt := jb_ne_n (rfl) (rfl) c_45
                        refine lv_iconst (v := 1) hx hb dX7_isWrittenIn_196 (by decide) ?_
                        rw [hQ]
                        exact W.zret (v := 1) hx hb hr (jb_nz (Or.inr rfl)) (fun t ht hW => ⟨⟨1, (), rfl, ⟨(Or.inr rfl), trivial⟩, hh_41.rt (M1 := []) [] rfl ht⟩, by rw [ht]; try exact hh_41.1.1, fun q h9 hq => by rw [ht]; try exact hh_41.1.2.1 q h9 hq⟩) hh_41.1.2.2 dX7_isWrittenIn_197
              refine lv_icmp_ne (tgt := 121) hx hb dX7_isWrittenIn_90 (by decide) (fun c_47 => ?_) (fun c_47 => ?_)
              · skip
                have c_47' : z_17.toInt ≠ 10 := jb_ne (rfl) ((by decide)) c_47
                exact C121 z_19 0 w0_20 _ _ hh_20 (hb_w0_20) (by first | omega | rfl | assumption | decide | exact Or.inl rfl | exact Or.inr rfl | (simp only; omega)) _ (lv_sub hl [1, 2, 3, 4, 5, 6, 7, 8, 9, 10, 0] rfl)
              · skip
                have c_47' : z_17.toInt = 10 := jb_ne_n (rfl) ((by decide)) c_47
                refine lv_iload hx hb dX7_isWrittenIn_93 (lv_at hl 9 rfl) ?_
                refine lv_iload hx hb dX7_isWrittenIn_95 (lv_at hl 5 rfl) ?_
                refine lv_icmp_ge (tgt := 121) hx hb dX7_isWrittenIn_97 (by decide) (fun c_48 => ?_) (fun c_48 => ?_)
                · skip
                  have c_48' : z_19.toInt ≥ a4.toInt := jb_ge (rfl) (rfl) c_48
                  exact C121 z_19 0 w0_20 _ _ hh_20 (hb_w0_20) (by first | omega | rfl | assumption | decide | exact Or.inl rfl | exact Or.inr rfl | (simp only; omega)) _ (lv_sub hl [1, 2, 3, 4, 5, 6, 7, 8, 9, 10, 0] rfl)
                · skip
                  have c_48' : z_19.toInt < a4.toInt := jb_ge_n (rfl) (rfl) c_48
                  refine lv_iconst (v := 1) hx hb dX7_isWrittenIn_100 (by decide) ?_
                  refine lv_istore (lv' := [(10, .int 1), (0, .ref r0), (1, .ref r1), (2, .int a2), (3, .int a3), (4, .int a4), (5, .int z_4), (6, .int v6_5), (7, .int z_17), (8, .int z_19), (9, .int 0)]) hx hb dX7_isWrittenIn_101 hl (by decide) rfl (fun ls hl => ?_)
                  refine lv_aload_n hx hb dX7_isWrittenIn_103 rfl (lv_at hl 1 rfl) ?_
                  obtain ⟨v_49, hv_49, hh_50⟩ := hh_20.pin (C := RX7) (T := TX7) (N := 5) hB9 rfl (by decide) hg_r0 (i := 4) (by decide) rfl
                  clear hh_20
                  obtain ⟨boundMore_51, rfl, hg_boundMore_51⟩ := hv_49
                  refine j7_read hx hb hown hK (C := RX7) (T := TX7) (N := 5) rfl hly_9_4 hlk_18 (hh_50.at 0 rfl) dX7_isWrittenIn_104 ?_
                  refine lv_iload hx hb dX7_isWrittenIn_107 (lv_at hl 9 rfl) ?_
                  refine j7_iald hx hb hK hh_50 hB184 1 rfl (by decide) hg_boundMore_51 (x := z_19.toInt) (rfl) (by omega) dX7_isWrittenIn_109 (fun z_52 (hz_52 : True) => ?_)
                  refine lv_istore (lv' := [(9, .int z_52), (10, .int 1), (0, .ref r0), (1, .ref r1), (2, .int a2), (3, .int a3), (4, .int a4), (5, .int z_4), (6, .int v6_5), (7, .int z_17), (8, .int z_19)]) hx hb dX7_isWrittenIn_110 hl (by decide) rfl (fun ls hl => ?_)
                  refine lv_aload_n hx hb dX7_isWrittenIn_112 rfl (lv_at hl 2 rfl) ?_
                  refine j7_read hx hb hown hK (C := RX7) (T := TX7) (N := 5) rfl hly_9_3 hlk_15 (hh_50.at 3 rfl) dX7_isWrittenIn_113 ?_
                  refine lv_iload hx hb dX7_isWrittenIn_116 (lv_at hl 10 rfl) ?_
                  refine j7_iald hx hb hK hh_50 hB183 1 rfl (by decide) hg_boundNames_3 (x := z_19.toInt) (rfl) (by omega) dX7_isWrittenIn_118 (fun z_53 (hz_53 : 0 ≤ z_53.toInt) => ?_)
                  refine lv_istore (lv' := [(8, .int z_53), (9, .int z_52), (10, .int 1), (0, .ref r0), (1, .ref r1), (2, .int a2), (3, .int a3), (4, .int a4), (5, .int z_4), (6, .int v6_5), (7, .int z_17)]) hx hb dX7_isWrittenIn_119 hl (by decide) rfl (fun ls hl => ?_)
                  exact C121 z_53 z_52 1 _ _ (hh_50.sub (L1 := [(names_11, 8, 3, .int count_14), (r0, 9, 0, .ref names_11), (r0, 9, 3, .ref boundNames_3)]) [1, 2, 3] rfl (M1 := []) [] rfl (I1 := []) [] rfl) (Or.inr rfl) (by first | omega | rfl | assumption | decide | exact Or.inl rfl | exact Or.inr rfl | (simp only; omega)) _ (lv_sub hl [3, 4, 5, 6, 7, 8, 9, 10, 0, 1, 2] rfl)
            have C79 : ∀ (H_54 : Heap) (locs_54 : List Loc), jSt (dC, dI) B base G0 G0 EX7_isWrittenIn s.heap 0 0 [(names_11, 8, 3, .int count_14), (r0, 9, 0, .ref names_11), (r0, 9, 3, .ref boundNames_3)] [] [] H_54 locs_54 → (True) → ∀ ls : Array Slot, lv_has ls 11 [(0, .ref r0), (1, .ref r1), (2, .int a2), (3, .int a3), (4, .int a4), (5, .int z_4), (6, .int v6_5), (7, .int z_17), (8, .int z_19), (9, .int 0)] → W p l e R s m ([.ref r0, .ref r1, .int a2, .int a3, .int a4] : List Value).toArray below meth c H_54 locs_54 0 0 Q (F0 m 79 ls []) := by
              intro  H_54 locs_54 hh_54  hi_54 ls hl
              refine lv_iconst (v := 1) hx hb dX7_isWrittenIn_79 (by decide) ?_
              refine lv_goto (tgt := 84) hx hb dX7_isWrittenIn_80 (by decide) ?_
              exact C84 1 _ _ hh_54 (Or.inr rfl) (trivial) _ (lv_sub hl [0, 1, 2, 3, 4, 5, 6, 7, 8, 9] rfl)
            refine lv_icmp_eq (tgt := 79) hx hb dX7_isWrittenIn_62 (by decide) (fun c_55 => ?_) (fun c_55 => ?_)
            · skip
              have c_55' : z_17.toInt = 7 := jb_eq (rfl) ((by decide)) c_55
              exact C79  _ _ hh_13 (trivial) _ (lv_sub hl [3, 4, 5, 6, 7, 8, 9, 2, 1, 0] rfl)
            · skip
              have c_55' : z_17.toInt ≠ 7 := jb_eq_n (rfl) ((by decide)) c_55
              refine lv_iload hx hb dX7_isWrittenIn_65 (lv_at hl 2 rfl) ?_
              refine lv_bipush (v := 8) hx hb dX7_isWrittenIn_67 (by decide) ?_
              refine lv_icmp_eq (tgt := 79) hx hb dX7_isWrittenIn_69 (by decide) (fun c_56 => ?_) (fun c_56 => ?_)
              · skip
                have c_56' : z_17.toInt = 8 := jb_eq (rfl) ((by decide)) c_56
                exact C79  _ _ hh_13 (trivial) _ (lv_sub hl [3, 4, 5, 6, 7, 8, 9, 2, 1, 0] rfl)
              · skip
                have c_56' : z_17.toInt ≠ 8 := jb_eq_n (rfl) ((by decide)) c_56
                refine lv_iload hx hb dX7_isWrittenIn_72 (lv_at hl 2 rfl) ?_
                refine lv_bipush (v := 9) hx hb dX7_isWrittenIn_74 (by decide) ?_
                refine lv_icmp_ne (tgt := 83) hx hb dX7_isWrittenIn_76 (by decide) (fun c_57 => ?_) (fun c_57 => ?_)
                · skip
                  have c_57' : z_17.toInt ≠ 9 := jb_ne (rfl) ((by decide)) c_57
                  refine lv_iconst (v := 0) hx hb dX7_isWrittenIn_83 (by decide) ?_
                  exact C84 0 _ _ hh_13 (Or.inl rfl) (trivial) _ (lv_sub hl [3, 4, 5, 6, 7, 8, 9, 2, 1, 0] rfl)
                · skip
                  have c_57' : z_17.toInt = 9 := jb_ne_n (rfl) ((by decide)) c_57
                  exact C79  _ _ hh_13 (trivial) _ (lv_sub hl [3, 4, 5, 6, 7, 8, 9, 2, 1, 0] rfl)
  exact L12 (((n1 - (a2 : Int32).toInt).toNat : Int) : Int).toNat.succ a2 _ _ hh_2 (by first | omega | (refine ⟨?_, ?_⟩ <;> (first | omega | rfl | assumption | decide | exact Or.inl rfl | exact Or.inr rfl | (simp only; omega)))) (by omega) _ (lv_sub hl [2, 3, 4, 5, 6, 1, 0] rfl)
set_option maxHeartbeats 4000000 in
set_option maxRecDepth 20000 in
theorem uX7_pushQuantified (l : Launch) (dC : Nat → ClassId) (dI : Nat → Nat → Nat) (ca : Nat → ClassId) (base : Nat) (B : jF) (hB : jBok B) (hAp : jAp (dC, dI)) (hB8 : ∀ n G a H, B 8 n G a H ↔ jOb (dC, dI) 8 4 (F8 n G) a H) (hB9 : ∀ n G a H, B 9 n G a H ↔ jOb (dC, dI) 9 5 (F9 n G) a H) (hB102 : ∀ n G a H, B 102 n G a H ↔ jAl (dC, dI) (ca 2) n a H) (hB132 : ∀ n G a H, B 132 n G a H ↔ jAr (dC, dI) (ca 1) (fun j z => 0 ≤ z.toInt ∧ z.toInt ≤ 10) n a H) (hB180 : ∀ n G a H, B 180 n G a H ↔ jAr (dC, dI) (ca 1) (fun j z => 0 ≤ z.toInt) n a H) (hB182 : ∀ n G a H, B 182 n G a H ↔ jAr (dC, dI) (ca 1) (fun j z => True) n a H) (hB183 : ∀ n G a H, B 183 n G a H ↔ jAr (dC, dI) (ca 1) (fun j z => 0 ≤ z.toInt) n a H) (hB184 : ∀ n G a H, B 184 n G a H ↔ jAr (dC, dI) (ca 1) (fun j z => True) n a H) (G0 : jT) (H0 : Heap) (r0 : Nat) (r1 : Nat) (a2 : Int32) (a3 : Int32) (n1 : Nat) : Met l yX7_pushQuantified (jw yX7_pushQuantified cX7_pushQuantified 6 none) ({ frames := 1, cells := 0, slots := 0, locals := 30 }) (va_Pc [.ref r0, .ref r1, .int a2, .int a3] (fun U => U.heap = H0 ∧ jX B base G0 [] H0 ∧ jG dC dI ca base U ∧ G0 r1 = some (180, n1) ∧ G0 r0 = some (9, 0) ∧ jP (dC, dI) G0 H0 [] ∧ 0 ≤ a2.toInt ∧ a2.toInt < n1 ∧ n1 ≤ 100000 ∧ 0 ≤ a3.toInt)) (va_Qv (S := Unit) (fun u => True) (fun u t => jRt (dC, dI) B base G0 EX7_pushQuantified H0 [] t.heap) (jA base)) 0 0 (jA base) := by
  refine Met.ofW (cc := cX7_pushQuantified) (maxL := 6) (ret := none) (by decide) rfl ?_
  intro p e s m args below meth c s₁ Bd hml hv
  obtain ⟨rfl, hH0, hX, hG, hg_r1, hg_r0, hP0, hp0, hp1, hp2, hp3⟩ := hv
  have hK := hG.1
  have hx := Bd.exec
  have hb := Bd.bytes
  have hr := Bd.returns
  have hts := atoms_spec (ws := (jw yX7_pushQuantified cX7_pushQuantified 6 none)) Bd.pre
  have htw : ∀ w ∈ jWl, w.before _ s = true := fun w h => hts w (List.mem_cons_of_mem _ h)
  have hown : s.vm.findClass RX7 = some m.cls := findClass_of_methodNamed Bd.named
  have hlocks := Bd.notSynchronized
  obtain ⟨Q, hQ⟩ : ∃ Q, Q = MQ below (va_Qv (S := Unit) (fun u => True) (fun u t => jRt (dC, dI) B base G0 EX7_pushQuantified H0 [] t.heap) (jA base)) ([.ref r0, .ref r1, .int a2, .int a3] : List Value).toArray s 0 0 (jA base) := ⟨_, rfl⟩
  rw [← hQ]
  have hl := lv_entry ([.ref r0, .ref r1, .int a2, .int a3]) (n := 6) (Nat.le_of_ble_eq_true rfl)
  rw [lg_entry_eq]
  generalize (lg_sl ([.ref r0, .ref r1, .int a2, .int a3]) ++ List.replicate (6 - (lg_sl ([.ref r0, .ref r1, .int a2, .int a3])).length) Slot.unset).toArray = ls at hl ⊢
  have hl : lv_has ls 6 [(0, .ref r0), (1, .ref r1), (2, .int a2), (3, .int a3)] := hl
  generalize hR : (headSpec (jw yX7_pushQuantified cX7_pushQuantified 6 none) ({ frames := 1, cells := 0, slots := 0, locals := 30 })).room = R
  subst hH0
  have hh : jSt (dC, dI) B base G0 G0 EX7_pushQuantified s.heap 0 0 [] [] [] s.heap [] := jSt.start hX hP0 jMc.nil jIs.nil
  clear hX hP0
  have hk0 : (0 : Int32).toInt = 0 := by decide
  have hk1 : (1 : Int32).toInt = 1 := by decide
  have hk2 : (2 : Int32).toInt = 2 := by decide
  have hk10 : (10 : Int32).toInt = 10 := by decide
  have hk15 : (15 : Int32).toInt = 15 := by decide
  have hk17 : (17 : Int32).toInt = 17 := by decide
  have hk18 : (18 : Int32).toInt = 18 := by decide
  have hk160 : (160 : Int32).toInt = 160 := by decide
  have hk256 : (256 : Int32).toInt = 256 := by decide
  have hly_9_3 := htw (u_lay RX7 TX7 3) (jWc_wsX70 _ (u_in_lay (by decide)))
  have hly_9_4 := htw (u_lay RX7 TX7 4) (jWc_wsX70 _ (u_in_lay (by decide)))
  have hlk_15 := (htw (.fieldLink RX7 15 "ProofServer$Printer" "boundNames" "[I") (jWr_9 _ (List.mem_of_getElem? (i := 8) rfl)))
  have hlk_18 := (htw (.fieldLink RX7 18 "ProofServer$Printer" "boundMore" "[I") (jWr_9 _ (List.mem_of_getElem? (i := 9) rfl)))
  have hrg_a2 := jb_rng a2
  have hrg_a3 := jb_rng a3
  refine lv_iload_n hx hb dX7_pushQuantified_0 rfl (lv_at hl 3 rfl) ?_
  refine lv_aload_n hx hb dX7_pushQuantified_1 rfl (lv_at hl 0 rfl) ?_
  obtain ⟨v_1, hv_1, hh_2⟩ := hh.pin (C := RX7) (T := TX7) (N := 5) hB9 rfl (by decide) hg_r0 (i := 3) (by decide) rfl
  clear hh
  obtain ⟨boundNames_3, rfl, hg_boundNames_3⟩ := hv_1
  refine j7_read hx hb hown hK (C := RX7) (T := TX7) (N := 5) rfl hly_9_3 hlk_15 (hh_2.at 0 rfl) dX7_pushQuantified_2 ?_
  refine j7_len hx hb hK hh_2 hB183 1 rfl (by decide) hg_boundNames_3 (by omega) dX7_pushQuantified_5 (fun z_4 hz_4 => ?_)
  refine lv_icmp_lt (tgt := 10) hx hb dX7_pushQuantified_6 (by decide) (fun c_5 => ?_) (fun c_5 => ?_)
  · skip
    have c_5' : a3.toInt < z_4.toInt := jb_lt (rfl) (rfl) c_5
    refine lv_aload_n hx hb dX7_pushQuantified_10 rfl (lv_at hl 1 rfl) ?_
    refine lv_iload_n hx hb dX7_pushQuantified_11 rfl (lv_at hl 2 rfl) ?_
    refine lv_aload_n hx hb dX7_pushQuantified_12 rfl (lv_at hl 1 rfl) ?_
    refine j7_len hx hb hK hh_2 hB180 1 rfl (by decide) hg_r1 (by omega) dX7_pushQuantified_13 (fun z_6 hz_6 => ?_)
    refine va_calli (A0 := jA base) (H0 := s.heap) (va_runSN (As := [.ref r1, .int a2, .int z_6]) (rest := []) ⟨hx, hb, hml, hown, hts⟩ (uX11_endOf l dC dI ca base B hB hAp hB180 G0 s.heap r1 a2 z_6 n1) ⟨va_cnB 3 hts (jgW (jWr_32 _ (List.mem_of_getElem? (i := 4) rfl))) rfl rfl rfl (hG.2.2.1 RX7 144 yX11_endOf "ProofServer" (List.mem_of_getElem? (i := 994) (by decide +kernel))) (htw (.initialized RX11) (jWr_1 _ (List.mem_of_getElem? (i := 2) rfl))) (by decide +kernel) ⟨by rw [← hR]; exact Nat.le_of_ble_eq_true rfl, by rw [← hR]; exact Nat.le_of_ble_eq_true rfl⟩, htw (.static yX11_endOf) (jWr_32 _ (List.mem_of_getElem? (i := 3) rfl)), trivial⟩ ⟨fun a U g mk q => by obtain ⟨q0, q1, q2, qK, q10, q11, q12⟩ := q; exact ⟨q0, q1, q2, jG.calling g mk a qK, q10, q11, q12⟩, fun U hU hW => ⟨rfl, hU, hh_2.2.1, hG.step hW hU hh_2.1, hg_r1, jP.nil, by first | omega | (refine ⟨?_, ?_, ?_⟩ <;> (first | omega | rfl | assumption | decide | exact Or.inl rfl | exact Or.inr rfl | (simp only; omega)))⟩⟩ rfl rfl hl.1 rfl (lv_room (Nat.le_of_ble_eq_true rfl)) dX7_pushQuantified_14 ⟨Nat.zero_le _, Nat.zero_le _⟩) hh_2.1 (fun q _ h => h) (fun q h => h) (fun r_8 u_7 t_7 H_7 locs_7 ht_7 hvm_7 hr_8 hb_7 hz_7 hk_7 hS_7 => ?_)
    rw [ht_7] at hb_7
    obtain ⟨hb_71, hb_72, hb_73, hb_74, hb_75⟩ := hb_7
    have hh_7 : jSt (dC, dI) B base G0 G0 EX7_pushQuantified s.heap 0 0 [(r0, 9, 3, .ref boundNames_3)] [] [] H_7 locs_7 := ((hh_2.call hb_71 hb_72 hb_73 hb_74 hS_7 rfl (L1 := [(r0, 9, 3, .ref boundNames_3)]) [0] rfl rfl (M1 := []) [] rfl rfl (I1 := []) [] rfl rfl).more hb_75)
    clear hh_2 ht_7 hvm_7 hz_7 hk_7 hS_7 hb_71 hb_72 hb_73 hb_74 hb_75
    obtain ⟨hr_8_0, hr_8_1⟩ := hr_8
    refine lv_istore (lv' := [(4, .int r_8), (0, .ref r0), (1, .ref r1), (2, .int a2), (3, .int a3)]) hx hb dX7_pushQuantified_17 hl (by decide) rfl (fun ls hl => ?_)
    refine lv_aload_n hx hb dX7_pushQuantified_19 rfl (lv_at hl 1 rfl) ?_
    refine j7_read hx hb hown hK (C := RX7) (T := TX7) (N := 5) rfl hly_9_3 hlk_15 (hh_7.at 0 rfl) dX7_pushQuantified_20 ?_
    refine lv_iload_n hx hb dX7_pushQuantified_23 rfl (lv_at hl 4 rfl) ?_
    refine lv_aload_n hx hb dX7_pushQuantified_24 rfl (lv_at hl 2 rfl) ?_
    refine lv_iload_n hx hb dX7_pushQuantified_25 rfl (lv_at hl 3 rfl) ?_
    refine j7_iald hx hb hK hh_7 hB180 1 rfl (by decide) hg_r1 (x := a2.toInt) (rfl) (by omega) dX7_pushQuantified_26 (fun z_9 (hz_9 : 0 ≤ z_9.toInt) => ?_)
    refine lv_bipush (v := 15) hx hb dX7_pushQuantified_27 (by decide) ?_
    refine lv_ishr hx hb dX7_pushQuantified_29 ?_
    refine lv_topi (fun z_10 ez_10 => ?_)
    have hz_10 : z_10.toInt = z_9.toInt / 2 ^ 15 := by rw [ez_10]; exact jb_ishr 15 (rfl) (by decide)
    refine j7_iast hx hb hK hh_7 hB hB183 1 rfl (by decide) (by decide) rfl rfl rfl hg_boundNames_3 (x := a3.toInt) (rfl) (by omega) (by first | omega | rfl | assumption | decide | exact Or.inl rfl | exact Or.inr rfl | (simp only; omega)) dX7_pushQuantified_30 (fun H_11 locs_11 hh_11 => ?_)
    clear hh_7
    refine lv_aload_n hx hb dX7_pushQuantified_31 rfl (lv_at hl 1 rfl) ?_
    obtain ⟨v_12, hv_12, hh_13⟩ := hh_11.pin (C := RX7) (T := TX7) (N := 5) hB9 rfl (by decide) hg_r0 (i := 4) (by decide) rfl
    clear hh_11
    obtain ⟨boundMore_14, rfl, hg_boundMore_14⟩ := hv_12
    refine j7_read hx hb hown hK (C := RX7) (T := TX7) (N := 5) rfl hly_9_4 hlk_18 (hh_13.at 0 rfl) dX7_pushQuantified_32 ?_
    refine lv_iload_n hx hb dX7_pushQuantified_35 rfl (lv_at hl 4 rfl) ?_
    refine lv_iconst (v := 0) hx hb dX7_pushQuantified_36 (by decide) ?_
    refine j7_iast hx hb hK hh_13 hB hB184 1 rfl (by decide) (by decide) rfl rfl rfl hg_boundMore_14 (x := a3.toInt) (rfl) (by omega) (trivial) dX7_pushQuantified_37 (fun H_15 locs_15 hh_15 => ?_)
    clear hh_13
    refine lv_iconst (v := 0) hx hb dX7_pushQuantified_38 (by decide) ?_
    refine lv_istore (lv' := [(5, .int 0), (4, .int r_8), (0, .ref r0), (1, .ref r1), (2, .int a2), (3, .int a3)]) hx hb dX7_pushQuantified_39 hl (by decide) rfl (fun ls hl => ?_)
    have L41 : ∀ (N : Nat) (v5_16 : Int32) (H_16 : Heap) (locs_16 : List Loc), jSt (dC, dI) B base G0 G0 EX7_pushQuantified s.heap 0 0 [(r0, 9, 4, .ref boundMore_14), (r0, 9, 3, .ref boundNames_3)] [] [] H_16 locs_16 → (0 ≤ v5_16.toInt ∧ v5_16.toInt ≤ 160) → (160 - v5_16.toInt : Int) < N → ∀ ls : Array Slot, lv_has ls 6 [(0, .ref r0), (1, .ref r1), (2, .int a2), (3, .int a3), (4, .int r_8), (5, .int v5_16)] → W p l e R s m ([.ref r0, .ref r1, .int a2, .int a3] : List Value).toArray below meth c H_16 locs_16 0 0 Q (F0 m 41 ls []) := by
      intro N
      induction N with
      | zero => intro v5_16 H_16 locs_16 hh_16  hi_16 hm; exact absurd hm (by omega)
      | succ N L41 =>
        intro v5_16 H_16 locs_16 hh_16  hi_16 hm_16 ls hl
        obtain ⟨hi_16_0, hi_16_1⟩ := hi_16
        try clear hr_8_1
        refine lv_iload hx hb dX7_pushQuantified_41 (lv_at hl 5 rfl) ?_
        refine lv_sipush (v := 160) hx hb dX7_pushQuantified_43 (by decide) ?_
        have C79 : ∀ (v5_17 : Int32) (H_17 : Heap) (locs_17 : List Loc), jSt (dC, dI) B base G0 G0 EX7_pushQuantified s.heap 0 0 [(r0, 9, 4, .ref boundMore_14), (r0, 9, 3, .ref boundNames_3)] [] [] H_17 locs_17 → (True) → ∀ ls : Array Slot, lv_has ls 6 [(0, .ref r0), (1, .ref r1), (2, .int a2), (3, .int a3), (4, .int r_8), (5, .int v5_17)] → W p l e R s m ([.ref r0, .ref r1, .int a2, .int a3] : List Value).toArray below meth c H_17 locs_17 0 0 Q (F0 m 79 ls []) := by
          intro v5_17 H_17 locs_17 hh_17  hi_17 ls hl
          refine lv_aload_n hx hb dX7_pushQuantified_79 rfl (lv_at hl 0 rfl) ?_
          refine lv_iconst (v := 2) hx hb dX7_pushQuantified_80 (by decide) ?_
          refine lv_iload_n hx hb dX7_pushQuantified_81 rfl (lv_at hl 2 rfl) ?_
          refine lv_iconst (v := 1) hx hb dX7_pushQuantified_82 (by decide) ?_
          refine lv_iadd hx hb dX7_pushQuantified_83 ?_
          refine lv_topi (fun z_18 ez_18 => ?_)
          have hz_18 : z_18.toInt = a2.toInt + 1 := by rw [ez_18]; exact jb_iadd2 (rfl) ((by decide)) (by omega)
          refine lv_sipush (v := 256) hx hb dX7_pushQuantified_84 (by decide) ?_
          refine lv_ior hx hb dX7_pushQuantified_87 ?_
          refine lv_topi (fun z_19 ez_19 => ?_)
          refine lv_iload_n hx hb dX7_pushQuantified_88 rfl (lv_at hl 3 rfl) ?_
          refine lv_iconst (v := 1) hx hb dX7_pushQuantified_89 (by decide) ?_
          refine lv_iadd hx hb dX7_pushQuantified_90 ?_
          refine lv_topi (fun z_20 ez_20 => ?_)
          have hz_20 : z_20.toInt = a3.toInt + 1 := by rw [ez_20]; exact jb_iadd2 (rfl) ((by decide)) (by omega)
          refine lv_bipush (v := 10) hx hb dX7_pushQuantified_91 (by decide) ?_
          refine lv_ishl hx hb dX7_pushQuantified_93 ?_
          refine lv_topi (fun z_21 ez_21 => ?_)
          refine lv_ior hx hb dX7_pushQuantified_94 ?_
          refine lv_topi (fun z_22 ez_22 => ?_)
          refine va_callv (A0 := jA base) (H0 := s.heap) (va_runV (As := [.int 2, .int z_22]) (rest := []) ⟨hx, hb, hml, hown, hts⟩ (uX7_push l dC dI ca base B hB hAp hB9 hB182 G0 H_17 r0 2 z_22) (cwV 2 hts (jgV (jWr_31 _ (List.mem_of_getElem? (i := 9) rfl)) (jWr_31 _ (List.mem_of_getElem? (i := 10) rfl)) (jWr_31 _ (List.mem_of_getElem? (i := 11) rfl)) (jWr_2 _ (List.mem_of_getElem? (i := 8) rfl)) (jWr_31 _ (List.mem_of_getElem? (i := 12) rfl))) rfl rfl rfl (by decide +kernel) ⟨by rw [← hR]; exact Nat.le_of_ble_eq_true rfl, by rw [← hR]; exact Nat.le_of_ble_eq_true rfl⟩) ⟨fun a U g mk q => by obtain ⟨q0, q1, q2, qK, q10, q11, q12⟩ := q; exact ⟨q0, q1, q2, jG.calling g mk a qK, q10, q11, q12⟩, hh_17.recv (C := RX7) (T := TX7) (N := 5) hB9 rfl (by decide) hg_r0 hK, fun U hU hW => ⟨rfl, hU, hh_17.2.1, hG.step hW hU hh_17.1, hg_r0, jP.nil, trivial⟩⟩ rfl rfl hl.1 rfl (lv_room (Nat.le_of_ble_eq_true rfl)) dX7_pushQuantified_95 ⟨Nat.zero_le _, Nat.zero_le _⟩) hh_17.1 (fun q _ h => h) (fun q h => h) (fun u_23 t_23 H_23 locs_23 ht_23 hvm_23 hr_24 hb_23 hz_23 hk_23 hS_23 => ?_)
          rw [ht_23] at hb_23
          obtain ⟨hb_231, hb_232, hb_233, hb_234, hb_235⟩ := hb_23
          have hh_23 : jSt (dC, dI) B base G0 G0 EX7_pushQuantified s.heap 0 0 [(r0, 9, 4, .ref boundMore_14), (r0, 9, 3, .ref boundNames_3)] [] [] H_23 locs_23 := ((hh_17.call hb_231 hb_232 hb_233 hb_234 hS_23 rfl (L1 := [(r0, 9, 4, .ref boundMore_14), (r0, 9, 3, .ref boundNames_3)]) [0, 1] rfl rfl (M1 := []) [] rfl rfl (I1 := []) [] rfl rfl).more hb_235)
          clear hh_17 ht_23 hvm_23 hz_23 hk_23 hS_23 hb_231 hb_232 hb_233 hb_234 hb_235
          refine lv_aload_n hx hb dX7_pushQuantified_98 rfl (lv_at hl 0 rfl) ?_
          refine lv_iconst (v := 0) hx hb dX7_pushQuantified_99 (by decide) ?_
          refine lv_bipush (v := 18) hx hb dX7_pushQuantified_100 (by decide) ?_
          refine va_callv (A0 := jA base) (H0 := s.heap) (va_runV (As := [.int 0, .int 18]) (rest := []) ⟨hx, hb, hml, hown, hts⟩ (uX7_push l dC dI ca base B hB hAp hB9 hB182 G0 H_23 r0 0 18) (cwV 2 hts (jgV (jWr_31 _ (List.mem_of_getElem? (i := 9) rfl)) (jWr_31 _ (List.mem_of_getElem? (i := 10) rfl)) (jWr_31 _ (List.mem_of_getElem? (i := 11) rfl)) (jWr_2 _ (List.mem_of_getElem? (i := 8) rfl)) (jWr_31 _ (List.mem_of_getElem? (i := 12) rfl))) rfl rfl rfl (by decide +kernel) ⟨by rw [← hR]; exact Nat.le_of_ble_eq_true rfl, by rw [← hR]; exact Nat.le_of_ble_eq_true rfl⟩) ⟨fun a U g mk q => by obtain ⟨q0, q1, q2, qK, q10, q11, q12⟩ := q; exact ⟨q0, q1, q2, jG.calling g mk a qK, q10, q11, q12⟩, hh_23.recv (C := RX7) (T := TX7) (N := 5) hB9 rfl (by decide) hg_r0 hK, fun U hU hW => ⟨rfl, hU, hh_23.2.1, hG.step hW hU hh_23.1, hg_r0, jP.nil, trivial⟩⟩ rfl rfl hl.1 rfl (lv_room (Nat.le_of_ble_eq_true rfl)) dX7_pushQuantified_102 ⟨Nat.zero_le _, Nat.zero_le _⟩) hh_23.1 (fun q _ h => h) (fun q h => h) (fun u_25 t_25 H_25 locs_25 ht_25 hvm_25 hr_26 hb_25 hz_25 hk_25 hS_25 => ?_)
          rw [ht_25] at hb_25
          obtain ⟨hb_251, hb_252, hb_253, hb_254, hb_255⟩ := hb_25
          have hh_25 : jSt (dC, dI) B base G0 G0 EX7_pushQuantified s.heap 0 0 [(r0, 9, 4, .ref boundMore_14), (r0, 9, 3, .ref boundNames_3)] [] [] H_25 locs_25 := ((hh_23.call hb_251 hb_252 hb_253 hb_254 hS_25 rfl (L1 := [(r0, 9, 4, .ref boundMore_14), (r0, 9, 3, .ref boundNames_3)]) [0, 1] rfl rfl (M1 := []) [] rfl rfl (I1 := []) [] rfl rfl).more hb_255)
          clear hh_23 ht_25 hvm_25 hz_25 hk_25 hS_25 hb_251 hb_252 hb_253 hb_254 hb_255
          refine lv_aload_n hx hb dX7_pushQuantified_105 rfl (lv_at hl 0 rfl) ?_
          refine lv_iconst (v := 1) hx hb dX7_pushQuantified_106 (by decide) ?_
          refine lv_aload_n hx hb dX7_pushQuantified_107 rfl (lv_at hl 0 rfl) ?_
          refine j7_read hx hb hown hK (C := RX7) (T := TX7) (N := 5) rfl hly_9_3 hlk_15 (hh_25.at 1 rfl) dX7_pushQuantified_108 ?_
          refine lv_iload_n hx hb dX7_pushQuantified_111 rfl (lv_at hl 3 rfl) ?_
          refine j7_iald hx hb hK hh_25 hB183 1 rfl (by decide) hg_boundNames_3 (x := a3.toInt) (rfl) (by omega) dX7_pushQuantified_112 (fun z_27 (hz_27 : 0 ≤ z_27.toInt) => ?_)
          refine lv_aload_n hx hb dX7_pushQuantified_113 rfl (lv_at hl 0 rfl) ?_
          refine j7_read hx hb hown hK (C := RX7) (T := TX7) (N := 5) rfl hly_9_4 hlk_18 (hh_25.at 0 rfl) dX7_pushQuantified_114 ?_
          refine lv_iload_n hx hb dX7_pushQuantified_117 rfl (lv_at hl 3 rfl) ?_
          refine j7_iald hx hb hK hh_25 hB184 1 rfl (by decide) hg_boundMore_14 (x := a3.toInt) (rfl) (by omega) dX7_pushQuantified_118 (fun z_28 (hz_28 : True) => ?_)
          refine lv_bipush (v := 17) hx hb dX7_pushQuantified_119 (by decide) ?_
          refine lv_ishl hx hb dX7_pushQuantified_121 ?_
          refine lv_topi (fun z_29 ez_29 => ?_)
          refine lv_ior hx hb dX7_pushQuantified_122 ?_
          refine lv_topi (fun z_30 ez_30 => ?_)
          refine va_callv (A0 := jA base) (H0 := s.heap) (va_runV (As := [.int 1, .int z_30]) (rest := []) ⟨hx, hb, hml, hown, hts⟩ (uX7_push l dC dI ca base B hB hAp hB9 hB182 G0 H_25 r0 1 z_30) (cwV 2 hts (jgV (jWr_31 _ (List.mem_of_getElem? (i := 9) rfl)) (jWr_31 _ (List.mem_of_getElem? (i := 10) rfl)) (jWr_31 _ (List.mem_of_getElem? (i := 11) rfl)) (jWr_2 _ (List.mem_of_getElem? (i := 8) rfl)) (jWr_31 _ (List.mem_of_getElem? (i := 12) rfl))) rfl rfl rfl (by decide +kernel) ⟨by rw [← hR]; exact Nat.le_of_ble_eq_true rfl, by rw [← hR]; exact Nat.le_of_ble_eq_true rfl⟩) ⟨fun a U g mk q => by obtain ⟨q0, q1, q2, qK, q10, q11, q12⟩ := q; exact ⟨q0, q1, q2, jG.calling g mk a qK, q10, q11, q12⟩, hh_25.recv (C := RX7) (T := TX7) (N := 5) hB9 rfl (by decide) hg_r0 hK, fun U hU hW => ⟨rfl, hU, hh_25.2.1, hG.step hW hU hh_25.1, hg_r0, jP.nil, trivial⟩⟩ rfl rfl hl.1 rfl (lv_room (Nat.le_of_ble_eq_true rfl)) dX7_pushQuantified_123 ⟨Nat.zero_le _, Nat.zero_le _⟩) hh_25.1 (fun q _ h => h) (fun q h => h) (fun u_31 t_31 H_31 locs_31 ht_31 hvm_31 hr_32 hb_31 hz_31 hk_31 hS_31 => ?_)
          rw [ht_31] at hb_31
          obtain ⟨hb_311, hb_312, hb_313, hb_314, hb_315⟩ := hb_31
          have hh_31 : jSt (dC, dI) B base G0 G0 EX7_pushQuantified s.heap 0 0 [(r0, 9, 4, .ref boundMore_14), (r0, 9, 3, .ref boundNames_3)] [] [] H_31 locs_31 := ((hh_25.call hb_311 hb_312 hb_313 hb_314 hS_31 rfl (L1 := [(r0, 9, 4, .ref boundMore_14), (r0, 9, 3, .ref boundNames_3)]) [0, 1] rfl rfl (M1 := []) [] rfl rfl (I1 := []) [] rfl rfl).more hb_315)
          clear hh_25 ht_31 hvm_31 hz_31 hk_31 hS_31 hb_311 hb_312 hb_313 hb_314 hb_315
          refine lv_aload_n hx hb dX7_pushQuantified_126 rfl (lv_at hl 0 rfl) ?_
          refine lv_iconst (v := 0) hx hb dX7_pushQuantified_127 (by decide) ?_
          refine lv_aload_n hx hb dX7_pushQuantified_128 rfl (lv_at hl 1 rfl) ?_
          refine lv_iload_n hx hb dX7_pushQuantified_129 rfl (lv_at hl 2 rfl) ?_
          refine j7_iald hx hb hK hh_31 hB180 1 rfl (by decide) hg_r1 (x := a2.toInt) (rfl) (by omega) dX7_pushQuantified_130 (fun z_33 (hz_33 : 0 ≤ z_33.toInt) => ?_)
          refine lv_bipush (v := 15) hx hb dX7_pushQuantified_131 (by decide) ?_
          refine lv_iand hx hb dX7_pushQuantified_133 ?_
          refine lv_topi (fun z_34 ez_34 => ?_)
          have hz_34 : 0 ≤ z_34.toInt ∧ z_34.toInt ≤ 15 := by rw [ez_34]; exact jb_and z_33 (m := 15) (k := 4) (by decide) (by decide)
          refine va_callv (A0 := jA base) (H0 := s.heap) (va_runV (As := [.int 0, .int z_34]) (rest := []) ⟨hx, hb, hml, hown, hts⟩ (uX7_push l dC dI ca base B hB hAp hB9 hB182 G0 H_31 r0 0 z_34) (cwV 2 hts (jgV (jWr_31 _ (List.mem_of_getElem? (i := 9) rfl)) (jWr_31 _ (List.mem_of_getElem? (i := 10) rfl)) (jWr_31 _ (List.mem_of_getElem? (i := 11) rfl)) (jWr_2 _ (List.mem_of_getElem? (i := 8) rfl)) (jWr_31 _ (List.mem_of_getElem? (i := 12) rfl))) rfl rfl rfl (by decide +kernel) ⟨by rw [← hR]; exact Nat.le_of_ble_eq_true rfl, by rw [← hR]; exact Nat.le_of_ble_eq_true rfl⟩) ⟨fun a U g mk q => by obtain ⟨q0, q1, q2, qK, q10, q11, q12⟩ := q; exact ⟨q0, q1, q2, jG.calling g mk a qK, q10, q11, q12⟩, hh_31.recv (C := RX7) (T := TX7) (N := 5) hB9 rfl (by decide) hg_r0 hK, fun U hU hW => ⟨rfl, hU, hh_31.2.1, hG.step hW hU hh_31.1, hg_r0, jP.nil, trivial⟩⟩ rfl rfl hl.1 rfl (lv_room (Nat.le_of_ble_eq_true rfl)) dX7_pushQuantified_134 ⟨Nat.zero_le _, Nat.zero_le _⟩) hh_31.1 (fun q _ h => h) (fun q h => h) (fun u_35 t_35 H_35 locs_35 ht_35 hvm_35 hr_36 hb_35 hz_35 hk_35 hS_35 => ?_)
          rw [ht_35] at hb_35
          obtain ⟨hb_351, hb_352, hb_353, hb_354, hb_355⟩ := hb_35
          have hh_35 : jSt (dC, dI) B base G0 G0 EX7_pushQuantified s.heap 0 0 [(r0, 9, 4, .ref boundMore_14), (r0, 9, 3, .ref boundNames_3)] [] [] H_35 locs_35 := ((hh_31.call hb_351 hb_352 hb_353 hb_354 hS_35 rfl (L1 := [(r0, 9, 4, .ref boundMore_14), (r0, 9, 3, .ref boundNames_3)]) [0, 1] rfl rfl (M1 := []) [] rfl rfl (I1 := []) [] rfl rfl).more hb_355)
          clear hh_31 ht_35 hvm_35 hz_35 hk_35 hS_35 hb_351 hb_352 hb_353 hb_354 hb_355
          rw [hQ]
          exact W.vret hx hb hr (fun t ht hW => ⟨⟨(), rfl, trivial, hh_35.rt (M1 := []) [] rfl ht⟩, by rw [ht]; try exact hh_35.1.1, fun q h9 hq => by rw [ht]; try exact hh_35.1.2.1 q h9 hq⟩) hh_35.1.2.2 dX7_pushQuantified_137
        refine lv_icmp_ge (tgt := 79) hx hb dX7_pushQuantified_46 (by decide) (fun c_37 => ?_) (fun c_37 => ?_)
        · skip
          have c_37' : v5_16.toInt ≥ 160 := jb_ge (rfl) ((by decide)) c_37
          exact C79 v5_16 _ _ hh_16 (trivial) _ (lv_sub hl [0, 1, 2, 3, 4, 5] rfl)
        · skip
          have c_37' : v5_16.toInt < 160 := jb_ge_n (rfl) ((by decide)) c_37
          refine lv_aload_n hx hb dX7_pushQuantified_49 rfl (lv_at hl 0 rfl) ?_
          refine lv_aload_n hx hb dX7_pushQuantified_50 rfl (lv_at hl 1 rfl) ?_
          refine lv_iload_n hx hb dX7_pushQuantified_51 rfl (lv_at hl 2 rfl) ?_
          refine lv_iconst (v := 1) hx hb dX7_pushQuantified_52 (by decide) ?_
          refine lv_iadd hx hb dX7_pushQuantified_53 ?_
          refine lv_topi (fun z_38 ez_38 => ?_)
          have hz_38 : z_38.toInt = a2.toInt + 1 := by rw [ez_38]; exact jb_iadd2 (rfl) ((by decide)) (by omega)
          refine lv_iload hx hb dX7_pushQuantified_54 (lv_at hl 4 rfl) ?_
          refine lv_iload_n hx hb dX7_pushQuantified_56 rfl (lv_at hl 3 rfl) ?_
          refine va_calli (A0 := jA base) (H0 := s.heap) (va_runV (As := [.ref r1, .int z_38, .int r_8, .int a3]) (rest := []) ⟨hx, hb, hml, hown, hts⟩ (uX7_isWrittenIn l dC dI ca base B hB hAp hB8 hB9 hB102 hB132 hB180 hB183 hB184 G0 H_16 r0 r1 z_38 r_8 a3 n1) (cwV 4 hts (jgV (jWr_32 _ (List.mem_of_getElem? (i := 5) rfl)) (jWr_32 _ (List.mem_of_getElem? (i := 6) rfl)) (jWr_32 _ (List.mem_of_getElem? (i := 7) rfl)) (jWr_2 _ (List.mem_of_getElem? (i := 8) rfl)) (jWr_32 _ (List.mem_of_getElem? (i := 8) rfl))) rfl rfl rfl (by decide +kernel) ⟨by rw [← hR]; exact Nat.le_of_ble_eq_true rfl, by rw [← hR]; exact Nat.le_of_ble_eq_true rfl⟩) ⟨fun a U g mk q => by obtain ⟨q0, q1, q2, qK, q10, q11, q12, q13⟩ := q; exact ⟨q0, q1, q2, jG.calling g mk a qK, q10, q11, q12, q13⟩, hh_16.recv (C := RX7) (T := TX7) (N := 5) hB9 rfl (by decide) hg_r0 hK, fun U hU hW => ⟨rfl, hU, hh_16.2.1, hG.step hW hU hh_16.1, hg_r1, hg_r0, jP.nil, by first | omega | (refine ⟨?_, ?_, ?_, ?_, ?_⟩ <;> (first | omega | rfl | assumption | decide | exact Or.inl rfl | exact Or.inr rfl | (simp only; omega)))⟩⟩ rfl rfl hl.1 rfl (lv_room (Nat.le_of_ble_eq_true rfl)) dX7_pushQuantified_57 ⟨Nat.zero_le _, Nat.zero_le _⟩) hh_16.1 (fun q _ h => h) (fun q h => h) (fun r_40 u_39 t_39 H_39 locs_39 ht_39 hvm_39 hr_40 hb_39 hz_39 hk_39 hS_39 => ?_)
          rw [ht_39] at hb_39
          obtain ⟨hb_391, hb_392, hb_393, hb_394, hb_395⟩ := hb_39
          have hh_39 : jSt (dC, dI) B base G0 G0 EX7_pushQuantified s.heap 0 0 [(r0, 9, 4, .ref boundMore_14), (r0, 9, 3, .ref boundNames_3)] [] [] H_39 locs_39 := ((hh_16.call hb_391 hb_392 hb_393 hb_394 hS_39 rfl (L1 := [(r0, 9, 4, .ref boundMore_14), (r0, 9, 3, .ref boundNames_3)]) [0, 1] rfl rfl (M1 := []) [] rfl rfl (I1 := []) [] rfl rfl).more hb_395)
          clear hh_16 ht_39 hvm_39 hz_39 hk_39 hS_39 hb_391 hb_392 hb_393 hb_394 hb_395
          obtain ⟨hr_40b, hr_40p⟩ := hr_40
          have hr_40' := jb_01 hr_40b
          refine lv_if_eq (tgt := 79) hx hb dX7_pushQuantified_60 (by decide) (fun c_41 => ?_) (fun c_41 => ?_)
          · skip
            have c_41' : r_40.toInt = 0 := jb_eq (rfl) ((by decide)) c_41
            exact C79 v5_16 _ _ hh_39 (trivial) _ (lv_sub hl [0, 1, 2, 3, 4, 5] rfl)
          · skip
            have c_41' : r_40.toInt ≠ 0 := jb_eq_n (rfl) ((by decide)) c_41
            refine lv_aload_n hx hb dX7_pushQuantified_63 rfl (lv_at hl 0 rfl) ?_
            refine j7_read hx hb hown hK (C := RX7) (T := TX7) (N := 5) rfl hly_9_4 hlk_18 (hh_39.at 0 rfl) dX7_pushQuantified_64 ?_
            refine lv_iload_n hx hb dX7_pushQuantified_67 rfl (lv_at hl 3 rfl) ?_
            refine lv_dup2_11 hx hb dX7_pushQuantified_68 rfl rfl ?_
            refine j7_iald hx hb hK hh_39 hB184 1 rfl (by decide) hg_boundMore_14 (x := a3.toInt) (rfl) (by omega) dX7_pushQuantified_69 (fun z_42 (hz_42 : True) => ?_)
            refine lv_iconst (v := 1) hx hb dX7_pushQuantified_70 (by decide) ?_
            refine lv_iadd hx hb dX7_pushQuantified_71 ?_
            refine lv_topi (fun z_43 ez_43 => ?_)
            refine j7_iast hx hb hK hh_39 hB hB184 1 rfl (by decide) (by decide) rfl rfl rfl hg_boundMore_14 (x := a3.toInt) (rfl) (by omega) (trivial) dX7_pushQuantified_72 (fun H_44 locs_44 hh_44 => ?_)
            clear hh_39
            obtain ⟨z_45, ez_45⟩ : ∃ y : Int32, y = v5_16 + 1 := ⟨_, rfl⟩
            refine lv_iinc (v := z_45) (lv' := [(5, .int z_45), (0, .ref r0), (1, .ref r1), (2, .int a2), (3, .int a3), (4, .int r_8)]) hx hb dX7_pushQuantified_73 hl (k := 5) rfl (by rw [ez_45]; rfl) (by decide) rfl (fun ls hl => ?_)
            have hz_45 : z_45.toInt = v5_16.toInt + 1 := by rw [ez_45]; exact jb_iadd2 (rfl) (by decide) (by omega)
            refine lv_goto (tgt := 41) hx hb dX7_pushQuantified_76 (by decide) ?_
            exact L41 z_45 _ _ hh_44 (by first | omega | (refine ⟨?_, ?_⟩ <;> (first | omega | rfl | assumption | decide | exact Or.inl rfl | exact Or.inr rfl | (simp only; omega)))) (by omega) _ (lv_sub hl [1, 2, 3, 4, 5, 0] rfl)
    exact L41 (160 - (0 : Int32).toInt : Int).toNat.succ 0 _ _ hh_15 (by first | omega | (refine ⟨?_, ?_⟩ <;> (first | omega | rfl | assumption | decide | exact Or.inl rfl | exact Or.inr rfl | (simp only; omega)))) (by omega) _ (lv_sub hl [2, 3, 4, 5, 1, 0] rfl)
  · skip
    have c_5' : a3.toInt ≥ z_4.toInt := jb_lt_n (rfl) (rfl) c_5
    rw [hQ]
    exact W.vret hx hb hr (fun t ht hW => ⟨⟨(), rfl, trivial, hh_2.rt (M1 := []) [] rfl ht⟩, by rw [ht]; try exact hh_2.1.1, fun q h9 hq => by rw [ht]; try exact hh_2.1.2.1 q h9 hq⟩) hh_2.1.2.2 dX7_pushQuantified_9
