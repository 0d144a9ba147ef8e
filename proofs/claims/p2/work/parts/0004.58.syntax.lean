section
def F8 (n : Nat) (G : jT) : List (Value → Prop) := [jRf G 102 8192, jRf G 132 8192, jRf G 133 16384, jI 0 8192]
theorem dX6_numberOf_0 : decode cX6_numberOf 0 = .ok (.iload_n 2, 1) := by decide +kernel
theorem dX6_numberOf_1 : decode cX6_numberOf 1 = .ok (.ifCond .lt 31, 3) := by decide +kernel
theorem dX6_numberOf_4 : decode cX6_numberOf 4 = .ok (.iload_n 3, 1) := by decide +kernel
theorem dX6_numberOf_5 : decode cX6_numberOf 5 = .ok (.aload_n 1, 1) := by decide +kernel
theorem dX6_numberOf_6 : decode cX6_numberOf 6 = .ok (.arraylength, 1) := by decide +kernel
theorem dX6_numberOf_7 : decode cX6_numberOf 7 = .ok (.if_icmp .gt 25, 3) := by decide +kernel
theorem dX6_numberOf_10 : decode cX6_numberOf 10 = .ok (.iload_n 2, 1) := by decide +kernel
theorem dX6_numberOf_11 : decode cX6_numberOf 11 = .ok (.iload_n 3, 1) := by decide +kernel
theorem dX6_numberOf_12 : decode cX6_numberOf 12 = .ok (.if_icmp .ge 20, 3) := by decide +kernel
theorem dX6_numberOf_15 : decode cX6_numberOf 15 = .ok (.iload_n 3, 1) := by decide +kernel
theorem dX6_numberOf_16 : decode cX6_numberOf 16 = .ok (.iload_n 2, 1) := by decide +kernel
theorem dX6_numberOf_17 : decode cX6_numberOf 17 = .ok (.isub, 1) := by decide +kernel
theorem dX6_numberOf_18 : decode cX6_numberOf 18 = .ok (.bipush 10, 2) := by decide +kernel
theorem dX6_numberOf_20 : decode cX6_numberOf 20 = .ok (.if_icmp .gt 12, 3) := by decide +kernel
theorem dX6_numberOf_23 : decode cX6_numberOf 23 = .ok (.aload_n 1, 1) := by decide +kernel
theorem dX6_numberOf_24 : decode cX6_numberOf 24 = .ok (.iload_n 2, 1) := by decide +kernel
theorem dX6_numberOf_25 : decode cX6_numberOf 25 = .ok (.iaload, 1) := by decide +kernel
theorem dX6_numberOf_26 : decode cX6_numberOf 26 = .ok (.invokestatic 38, 3) := by decide +kernel
theorem dX6_numberOf_29 : decode cX6_numberOf 29 = .ok (.ifCond .ne 5, 3) := by decide +kernel
theorem dX6_numberOf_32 : decode cX6_numberOf 32 = .ok (.iconst (-1), 1) := by decide +kernel
theorem dX6_numberOf_33 : decode cX6_numberOf 33 = .ok (.ireturn, 1) := by decide +kernel
theorem dX6_numberOf_34 : decode cX6_numberOf 34 = .ok (.iload_n 3, 1) := by decide +kernel
theorem dX6_numberOf_35 : decode cX6_numberOf 35 = .ok (.istore 5, 2) := by decide +kernel
theorem dX6_numberOf_37 : decode cX6_numberOf 37 = .ok (.iload 5, 2) := by decide +kernel
theorem dX6_numberOf_39 : decode cX6_numberOf 39 = .ok (.iload_n 2, 1) := by decide +kernel
theorem dX6_numberOf_40 : decode cX6_numberOf 40 = .ok (.if_icmp .le 20, 3) := by decide +kernel
theorem dX6_numberOf_43 : decode cX6_numberOf 43 = .ok (.aload_n 1, 1) := by decide +kernel
theorem dX6_numberOf_44 : decode cX6_numberOf 44 = .ok (.iload 5, 2) := by decide +kernel
theorem dX6_numberOf_46 : decode cX6_numberOf 46 = .ok (.iconst 1, 1) := by decide +kernel
theorem dX6_numberOf_47 : decode cX6_numberOf 47 = .ok (.isub, 1) := by decide +kernel
theorem dX6_numberOf_48 : decode cX6_numberOf 48 = .ok (.iaload, 1) := by decide +kernel
theorem dX6_numberOf_49 : decode cX6_numberOf 49 = .ok (.bipush 39, 2) := by decide +kernel
theorem dX6_numberOf_51 : decode cX6_numberOf 51 = .ok (.if_icmp .ne 9, 3) := by decide +kernel
theorem dX6_numberOf_54 : decode cX6_numberOf 54 = .ok (.iinc 5 (-1), 3) := by decide +kernel
theorem dX6_numberOf_57 : decode cX6_numberOf 57 = .ok (.goto (-20), 3) := by decide +kernel
theorem dX6_numberOf_60 : decode cX6_numberOf 60 = .ok (.lconst 1, 1) := by decide +kernel
theorem dX6_numberOf_61 : decode cX6_numberOf 61 = .ok (.lstore 6, 2) := by decide +kernel
theorem dX6_numberOf_63 : decode cX6_numberOf 63 = .ok (.iload 5, 2) := by decide +kernel
theorem dX6_numberOf_65 : decode cX6_numberOf 65 = .ok (.iconst 1, 1) := by decide +kernel
theorem dX6_numberOf_66 : decode cX6_numberOf 66 = .ok (.isub, 1) := by decide +kernel
theorem dX6_numberOf_67 : decode cX6_numberOf 67 = .ok (.istore 8, 2) := by decide +kernel
theorem dX6_numberOf_69 : decode cX6_numberOf 69 = .ok (.iload 8, 2) := by decide +kernel
theorem dX6_numberOf_71 : decode cX6_numberOf 71 = .ok (.iload_n 2, 1) := by decide +kernel
theorem dX6_numberOf_72 : decode cX6_numberOf 72 = .ok (.if_icmp .lt 36, 3) := by decide +kernel
theorem dX6_numberOf_75 : decode cX6_numberOf 75 = .ok (.aload_n 1, 1) := by decide +kernel
theorem dX6_numberOf_76 : decode cX6_numberOf 76 = .ok (.iload 8, 2) := by decide +kernel
theorem dX6_numberOf_78 : decode cX6_numberOf 78 = .ok (.iaload, 1) := by decide +kernel
theorem dX6_numberOf_79 : decode cX6_numberOf 79 = .ok (.invokestatic 42, 3) := by decide +kernel
theorem dX6_numberOf_82 : decode cX6_numberOf 82 = .ok (.istore 9, 2) := by decide +kernel
theorem dX6_numberOf_84 : decode cX6_numberOf 84 = .ok (.iload 9, 2) := by decide +kernel
theorem dX6_numberOf_86 : decode cX6_numberOf 86 = .ok (.ifCond .ge 5, 3) := by decide +kernel
theorem dX6_numberOf_89 : decode cX6_numberOf 89 = .ok (.iconst (-1), 1) := by decide +kernel
theorem dX6_numberOf_90 : decode cX6_numberOf 90 = .ok (.ireturn, 1) := by decide +kernel
theorem dX6_numberOf_91 : decode cX6_numberOf 91 = .ok (.lload 6, 2) := by decide +kernel
theorem dX6_numberOf_93 : decode cX6_numberOf 93 = .ok (.bipush 6, 2) := by decide +kernel
theorem dX6_numberOf_95 : decode cX6_numberOf 95 = .ok (.lshl, 1) := by decide +kernel
theorem dX6_numberOf_96 : decode cX6_numberOf 96 = .ok (.iload 9, 2) := by decide +kernel
theorem dX6_numberOf_98 : decode cX6_numberOf 98 = .ok (.i2l, 1) := by decide +kernel
theorem dX6_numberOf_99 : decode cX6_numberOf 99 = .ok (.lor, 1) := by decide +kernel
theorem dX6_numberOf_100 : decode cX6_numberOf 100 = .ok (.lstore 6, 2) := by decide +kernel
theorem dX6_numberOf_102 : decode cX6_numberOf 102 = .ok (.iinc 8 (-1), 3) := by decide +kernel
theorem dX6_numberOf_105 : decode cX6_numberOf 105 = .ok (.goto (-36), 3) := by decide +kernel
theorem dX6_numberOf_108 : decode cX6_numberOf 108 = .ok (.aload_n 0, 1) := by decide +kernel
theorem dX6_numberOf_109 : decode cX6_numberOf 109 = .ok (.lload 6, 2) := by decide +kernel
theorem dX6_numberOf_111 : decode cX6_numberOf 111 = .ok (.iload_n 3, 1) := by decide +kernel
theorem dX6_numberOf_112 : decode cX6_numberOf 112 = .ok (.iload 5, 2) := by decide +kernel
theorem dX6_numberOf_114 : decode cX6_numberOf 114 = .ok (.isub, 1) := by decide +kernel
theorem dX6_numberOf_115 : decode cX6_numberOf 115 = .ok (.iload 4, 2) := by decide +kernel
theorem dX6_numberOf_117 : decode cX6_numberOf 117 = .ok (.invokevirtual 46, 3) := by decide +kernel
theorem dX6_numberOf_120 : decode cX6_numberOf 120 = .ok (.ireturn, 1) := by decide +kernel
theorem dX6_find_0 : decode cX6_find 0 = .ok (.lload_n 1, 1) := by decide +kernel
theorem dX6_find_1 : decode cX6_find 1 = .ok (.ldc2_w 50, 3) := by decide +kernel
theorem dX6_find_4 : decode cX6_find 4 = .ok (.lmul, 1) := by decide +kernel
theorem dX6_find_5 : decode cX6_find 5 = .ok (.bipush 40, 2) := by decide +kernel
theorem dX6_find_7 : decode cX6_find 7 = .ok (.lushr, 1) := by decide +kernel
theorem dX6_find_8 : decode cX6_find 8 = .ok (.l2i, 1) := by decide +kernel
theorem dX6_find_9 : decode cX6_find 9 = .ok (.bipush 31, 2) := by decide +kernel
theorem dX6_find_11 : decode cX6_find 11 = .ok (.iload_n 3, 1) := by decide +kernel
theorem dX6_find_12 : decode cX6_find 12 = .ok (.imul, 1) := by decide +kernel
theorem dX6_find_13 : decode cX6_find 13 = .ok (.iadd, 1) := by decide +kernel
theorem dX6_find_14 : decode cX6_find 14 = .ok (.istore 5, 2) := by decide +kernel
theorem dX6_find_16 : decode cX6_find 16 = .ok (.iconst 0, 1) := by decide +kernel
theorem dX6_find_17 : decode cX6_find 17 = .ok (.istore 6, 2) := by decide +kernel
theorem dX6_find_19 : decode cX6_find 19 = .ok (.iload 6, 2) := by decide +kernel
theorem dX6_find_21 : decode cX6_find 21 = .ok (.sipush 16384, 3) := by decide +kernel
theorem dX6_find_24 : decode cX6_find 24 = .ok (.if_icmp .ge 127, 3) := by decide +kernel
theorem dX6_find_27 : decode cX6_find 27 = .ok (.iload 5, 2) := by decide +kernel
theorem dX6_find_29 : decode cX6_find 29 = .ok (.iload 6, 2) := by decide +kernel
theorem dX6_find_31 : decode cX6_find 31 = .ok (.iadd, 1) := by decide +kernel
theorem dX6_find_32 : decode cX6_find 32 = .ok (.sipush 16383, 3) := by decide +kernel
theorem dX6_find_35 : decode cX6_find 35 = .ok (.iand, 1) := by decide +kernel
theorem dX6_find_36 : decode cX6_find 36 = .ok (.istore 7, 2) := by decide +kernel
theorem dX6_find_38 : decode cX6_find 38 = .ok (.aload_n 0, 1) := by decide +kernel
theorem dX6_find_39 : decode cX6_find 39 = .ok (.getfield 19, 3) := by decide +kernel
theorem dX6_find_42 : decode cX6_find 42 = .ok (.iload 7, 2) := by decide +kernel
theorem dX6_find_44 : decode cX6_find 44 = .ok (.iaload, 1) := by decide +kernel
theorem dX6_find_45 : decode cX6_find 45 = .ok (.iconst 1, 1) := by decide +kernel
theorem dX6_find_46 : decode cX6_find 46 = .ok (.isub, 1) := by decide +kernel
theorem dX6_find_47 : decode cX6_find 47 = .ok (.istore 8, 2) := by decide +kernel
theorem dX6_find_49 : decode cX6_find 49 = .ok (.iload 8, 2) := by decide +kernel
theorem dX6_find_51 : decode cX6_find 51 = .ok (.ifCond .ge 68, 3) := by decide +kernel
theorem dX6_find_54 : decode cX6_find 54 = .ok (.iload 4, 2) := by decide +kernel
theorem dX6_find_56 : decode cX6_find 56 = .ok (.ifCond .eq 13, 3) := by decide +kernel
theorem dX6_find_59 : decode cX6_find 59 = .ok (.aload_n 0, 1) := by decide +kernel
theorem dX6_find_60 : decode cX6_find 60 = .ok (.getfield 52, 3) := by decide +kernel
theorem dX6_find_63 : decode cX6_find 63 = .ok (.sipush 8192, 3) := by decide +kernel
theorem dX6_find_66 : decode cX6_find 66 = .ok (.if_icmp .lt 5, 3) := by decide +kernel
theorem dX6_find_69 : decode cX6_find 69 = .ok (.iconst (-1), 1) := by decide +kernel
theorem dX6_find_70 : decode cX6_find 70 = .ok (.ireturn, 1) := by decide +kernel
theorem dX6_find_71 : decode cX6_find 71 = .ok (.aload_n 0, 1) := by decide +kernel
theorem dX6_find_72 : decode cX6_find 72 = .ok (.getfield 11, 3) := by decide +kernel
theorem dX6_find_75 : decode cX6_find 75 = .ok (.aload_n 0, 1) := by decide +kernel
theorem dX6_find_76 : decode cX6_find 76 = .ok (.getfield 52, 3) := by decide +kernel
theorem dX6_find_79 : decode cX6_find 79 = .ok (.lload_n 1, 1) := by decide +kernel
theorem dX6_find_80 : decode cX6_find 80 = .ok (.lastore, 1) := by decide +kernel
theorem dX6_find_81 : decode cX6_find 81 = .ok (.aload_n 0, 1) := by decide +kernel
theorem dX6_find_82 : decode cX6_find 82 = .ok (.getfield 15, 3) := by decide +kernel
theorem dX6_find_85 : decode cX6_find 85 = .ok (.aload_n 0, 1) := by decide +kernel
theorem dX6_find_86 : decode cX6_find 86 = .ok (.getfield 52, 3) := by decide +kernel
theorem dX6_find_89 : decode cX6_find 89 = .ok (.iload_n 3, 1) := by decide +kernel
theorem dX6_find_90 : decode cX6_find 90 = .ok (.iastore, 1) := by decide +kernel
theorem dX6_find_91 : decode cX6_find 91 = .ok (.aload_n 0, 1) := by decide +kernel
theorem dX6_find_92 : decode cX6_find 92 = .ok (.dup, 1) := by decide +kernel
theorem dX6_find_93 : decode cX6_find 93 = .ok (.getfield 52, 3) := by decide +kernel
theorem dX6_find_96 : decode cX6_find 96 = .ok (.iconst 1, 1) := by decide +kernel
theorem dX6_find_97 : decode cX6_find 97 = .ok (.iadd, 1) := by decide +kernel
theorem dX6_find_98 : decode cX6_find 98 = .ok (.putfield 52, 3) := by decide +kernel
theorem dX6_find_101 : decode cX6_find 101 = .ok (.aload_n 0, 1) := by decide +kernel
theorem dX6_find_102 : decode cX6_find 102 = .ok (.getfield 19, 3) := by decide +kernel
theorem dX6_find_105 : decode cX6_find 105 = .ok (.iload 7, 2) := by decide +kernel
theorem dX6_find_107 : decode cX6_find 107 = .ok (.aload_n 0, 1) := by decide +kernel
theorem dX6_find_108 : decode cX6_find 108 = .ok (.getfield 52, 3) := by decide +kernel
theorem dX6_find_111 : decode cX6_find 111 = .ok (.iastore, 1) := by decide +kernel
theorem dX6_find_112 : decode cX6_find 112 = .ok (.aload_n 0, 1) := by decide +kernel
theorem dX6_find_113 : decode cX6_find 113 = .ok (.getfield 52, 3) := by decide +kernel
theorem dX6_find_116 : decode cX6_find 116 = .ok (.iconst 1, 1) := by decide +kernel
theorem dX6_find_117 : decode cX6_find 117 = .ok (.isub, 1) := by decide +kernel
theorem dX6_find_118 : decode cX6_find 118 = .ok (.ireturn, 1) := by decide +kernel
theorem dX6_find_119 : decode cX6_find 119 = .ok (.aload_n 0, 1) := by decide +kernel
theorem dX6_find_120 : decode cX6_find 120 = .ok (.getfield 11, 3) := by decide +kernel
theorem dX6_find_123 : decode cX6_find 123 = .ok (.iload 8, 2) := by decide +kernel
theorem dX6_find_125 : decode cX6_find 125 = .ok (.laload, 1) := by decide +kernel
theorem dX6_find_126 : decode cX6_find 126 = .ok (.lload_n 1, 1) := by decide +kernel
theorem dX6_find_127 : decode cX6_find 127 = .ok (.lcmp, 1) := by decide +kernel
theorem dX6_find_128 : decode cX6_find 128 = .ok (.ifCond .ne 17, 3) := by decide +kernel
theorem dX6_find_131 : decode cX6_find 131 = .ok (.aload_n 0, 1) := by decide +kernel
theorem dX6_find_132 : decode cX6_find 132 = .ok (.getfield 15, 3) := by decide +kernel
theorem dX6_find_135 : decode cX6_find 135 = .ok (.iload 8, 2) := by decide +kernel
theorem dX6_find_137 : decode cX6_find 137 = .ok (.iaload, 1) := by decide +kernel
theorem dX6_find_138 : decode cX6_find 138 = .ok (.iload_n 3, 1) := by decide +kernel
theorem dX6_find_139 : decode cX6_find 139 = .ok (.if_icmp .ne 6, 3) := by decide +kernel
theorem dX6_find_142 : decode cX6_find 142 = .ok (.iload 8, 2) := by decide +kernel
theorem dX6_find_144 : decode cX6_find 144 = .ok (.ireturn, 1) := by decide +kernel
theorem dX6_find_145 : decode cX6_find 145 = .ok (.iinc 6 1, 3) := by decide +kernel
theorem dX6_find_148 : decode cX6_find 148 = .ok (.goto (-129), 3) := by decide +kernel
theorem dX6_find_151 : decode cX6_find 151 = .ok (.iconst (-1), 1) := by decide +kernel
theorem dX6_find_152 : decode cX6_find 152 = .ok (.ireturn, 1) := by decide +kernel
theorem dX10_scan_0 : decode cX10_scan 0 = .ok (.aload_n 0, 1) := by decide +kernel
theorem dX10_scan_1 : decode cX10_scan 1 = .ok (.iconst 0, 1) := by decide +kernel
theorem dX10_scan_2 : decode cX10_scan 2 = .ok (.putfield 28, 3) := by decide +kernel
theorem dX10_scan_5 : decode cX10_scan 5 = .ok (.iload_n 3, 1) := by decide +kernel
theorem dX10_scan_6 : decode cX10_scan 6 = .ok (.aload_n 1, 1) := by decide +kernel
theorem dX10_scan_7 : decode cX10_scan 7 = .ok (.arraylength, 1) := by decide +kernel
theorem dX10_scan_8 : decode cX10_scan 8 = .ok (.invokestatic 32, 3) := by decide +kernel
theorem dX10_scan_11 : decode cX10_scan 11 = .ok (.istore 4, 2) := by decide +kernel
theorem dX10_scan_13 : decode cX10_scan 13 = .ok (.iload_n 2, 1) := by decide +kernel
theorem dX10_scan_14 : decode cX10_scan 14 = .ok (.iconst 0, 1) := by decide +kernel
theorem dX10_scan_15 : decode cX10_scan 15 = .ok (.invokestatic 38, 3) := by decide +kernel
theorem dX10_scan_18 : decode cX10_scan 18 = .ok (.istore 5, 2) := by decide +kernel
theorem dX10_scan_20 : decode cX10_scan 20 = .ok (.iload 5, 2) := by decide +kernel
theorem dX10_scan_22 : decode cX10_scan 22 = .ok (.iload 4, 2) := by decide +kernel
theorem dX10_scan_24 : decode cX10_scan 24 = .ok (.if_icmp .ge 216, 3) := by decide +kernel
theorem dX10_scan_27 : decode cX10_scan 27 = .ok (.iload 5, 2) := by decide +kernel
theorem dX10_scan_29 : decode cX10_scan 29 = .ok (.iconst 1, 1) := by decide +kernel
theorem dX10_scan_30 : decode cX10_scan 30 = .ok (.iadd, 1) := by decide +kernel
theorem dX10_scan_31 : decode cX10_scan 31 = .ok (.istore 6, 2) := by decide +kernel
theorem dX10_scan_33 : decode cX10_scan 33 = .ok (.aload_n 1, 1) := by decide +kernel
theorem dX10_scan_34 : decode cX10_scan 34 = .ok (.iload 5, 2) := by decide +kernel
theorem dX10_scan_36 : decode cX10_scan 36 = .ok (.iload 4, 2) := by decide +kernel
theorem dX10_scan_38 : decode cX10_scan 38 = .ok (.invokestatic 41, 3) := by decide +kernel
theorem dX10_scan_41 : decode cX10_scan 41 = .ok (.ifCond .eq 16, 3) := by decide +kernel
theorem dX10_scan_44 : decode cX10_scan 44 = .ok (.aload_n 1, 1) := by decide +kernel
theorem dX10_scan_45 : decode cX10_scan 45 = .ok (.iload 5, 2) := by decide +kernel
theorem dX10_scan_47 : decode cX10_scan 47 = .ok (.iload 4, 2) := by decide +kernel
theorem dX10_scan_49 : decode cX10_scan 49 = .ok (.invokestatic 45, 3) := by decide +kernel
theorem dX10_scan_52 : decode cX10_scan 52 = .ok (.istore 6, 2) := by decide +kernel
theorem dX10_scan_54 : decode cX10_scan 54 = .ok (.goto 172, 3) := by decide +kernel
theorem dX10_scan_57 : decode cX10_scan 57 = .ok (.aload_n 1, 1) := by decide +kernel
theorem dX10_scan_58 : decode cX10_scan 58 = .ok (.iload 5, 2) := by decide +kernel
theorem dX10_scan_60 : decode cX10_scan 60 = .ok (.iaload, 1) := by decide +kernel
theorem dX10_scan_61 : decode cX10_scan 61 = .ok (.invokestatic 49, 3) := by decide +kernel
theorem dX10_scan_64 : decode cX10_scan 64 = .ok (.ifCond .eq 17, 3) := by decide +kernel
theorem dX10_scan_67 : decode cX10_scan 67 = .ok (.aload_n 0, 1) := by decide +kernel
theorem dX10_scan_68 : decode cX10_scan 68 = .ok (.aload_n 1, 1) := by decide +kernel
theorem dX10_scan_69 : decode cX10_scan 69 = .ok (.iload 5, 2) := by decide +kernel
theorem dX10_scan_71 : decode cX10_scan 71 = .ok (.iload 4, 2) := by decide +kernel
theorem dX10_scan_73 : decode cX10_scan 73 = .ok (.invokevirtual 53, 3) := by decide +kernel
theorem dX10_scan_76 : decode cX10_scan 76 = .ok (.istore 6, 2) := by decide +kernel
theorem dX10_scan_78 : decode cX10_scan 78 = .ok (.goto 148, 3) := by decide +kernel
theorem dX10_scan_81 : decode cX10_scan 81 = .ok (.aload_n 1, 1) := by decide +kernel
theorem dX10_scan_82 : decode cX10_scan 82 = .ok (.iload 5, 2) := by decide +kernel
theorem dX10_scan_84 : decode cX10_scan 84 = .ok (.iaload, 1) := by decide +kernel
theorem dX10_scan_85 : decode cX10_scan 85 = .ok (.bipush 45, 2) := by decide +kernel
theorem dX10_scan_87 : decode cX10_scan 87 = .ok (.if_icmp .ne 39, 3) := by decide +kernel
theorem dX10_scan_90 : decode cX10_scan 90 = .ok (.iload 5, 2) := by decide +kernel
theorem dX10_scan_92 : decode cX10_scan 92 = .ok (.iconst 1, 1) := by decide +kernel
theorem dX10_scan_93 : decode cX10_scan 93 = .ok (.iadd, 1) := by decide +kernel
theorem dX10_scan_94 : decode cX10_scan 94 = .ok (.iload 4, 2) := by decide +kernel
theorem dX10_scan_96 : decode cX10_scan 96 = .ok (.if_icmp .ge 30, 3) := by decide +kernel
theorem dX10_scan_99 : decode cX10_scan 99 = .ok (.aload_n 1, 1) := by decide +kernel
theorem dX10_scan_100 : decode cX10_scan 100 = .ok (.iload 5, 2) := by decide +kernel
theorem dX10_scan_102 : decode cX10_scan 102 = .ok (.iconst 1, 1) := by decide +kernel
theorem dX10_scan_103 : decode cX10_scan 103 = .ok (.iadd, 1) := by decide +kernel
theorem dX10_scan_104 : decode cX10_scan 104 = .ok (.iaload, 1) := by decide +kernel
theorem dX10_scan_105 : decode cX10_scan 105 = .ok (.bipush 62, 2) := by decide +kernel
theorem dX10_scan_107 : decode cX10_scan 107 = .ok (.if_icmp .ne 19, 3) := by decide +kernel
theorem dX10_scan_110 : decode cX10_scan 110 = .ok (.aload_n 0, 1) := by decide +kernel
theorem dX10_scan_111 : decode cX10_scan 111 = .ok (.bipush 62, 2) := by decide +kernel
theorem dX10_scan_113 : decode cX10_scan 113 = .ok (.iconst 0, 1) := by decide +kernel
theorem dX10_scan_114 : decode cX10_scan 114 = .ok (.invokevirtual 56, 3) := by decide +kernel
theorem dX10_scan_117 : decode cX10_scan 117 = .ok (.iload 5, 2) := by decide +kernel
theorem dX10_scan_119 : decode cX10_scan 119 = .ok (.iconst 2, 1) := by decide +kernel
theorem dX10_scan_120 : decode cX10_scan 120 = .ok (.iadd, 1) := by decide +kernel
theorem dX10_scan_121 : decode cX10_scan 121 = .ok (.istore 6, 2) := by decide +kernel
theorem dX10_scan_123 : decode cX10_scan 123 = .ok (.goto 103, 3) := by decide +kernel
theorem dX10_scan_126 : decode cX10_scan 126 = .ok (.aload_n 1, 1) := by decide +kernel
theorem dX10_scan_127 : decode cX10_scan 127 = .ok (.iload 5, 2) := by decide +kernel
theorem dX10_scan_129 : decode cX10_scan 129 = .ok (.iaload, 1) := by decide +kernel
theorem dX10_scan_130 : decode cX10_scan 130 = .ok (.invokestatic 60, 3) := by decide +kernel
theorem dX10_scan_133 : decode cX10_scan 133 = .ok (.ifCond .eq 19, 3) := by decide +kernel
theorem dX10_scan_136 : decode cX10_scan 136 = .ok (.aload_n 0, 1) := by decide +kernel
theorem dX10_scan_137 : decode cX10_scan 137 = .ok (.bipush 100, 2) := by decide +kernel
theorem dX10_scan_139 : decode cX10_scan 139 = .ok (.aload_n 1, 1) := by decide +kernel
theorem dX10_scan_140 : decode cX10_scan 140 = .ok (.iload 5, 2) := by decide +kernel
theorem dX10_scan_142 : decode cX10_scan 142 = .ok (.iaload, 1) := by decide +kernel
theorem dX10_scan_143 : decode cX10_scan 143 = .ok (.bipush 48, 2) := by decide +kernel
theorem dX10_scan_145 : decode cX10_scan 145 = .ok (.isub, 1) := by decide +kernel
theorem dX10_scan_146 : decode cX10_scan 146 = .ok (.invokevirtual 56, 3) := by decide +kernel
theorem dX10_scan_149 : decode cX10_scan 149 = .ok (.goto 77, 3) := by decide +kernel
theorem dX10_scan_152 : decode cX10_scan 152 = .ok (.aload_n 1, 1) := by decide +kernel
theorem dX10_scan_153 : decode cX10_scan 153 = .ok (.iload 5, 2) := by decide +kernel
theorem dX10_scan_155 : decode cX10_scan 155 = .ok (.iaload, 1) := by decide +kernel
theorem dX10_scan_156 : decode cX10_scan 156 = .ok (.invokestatic 63, 3) := by decide +kernel
theorem dX10_scan_159 : decode cX10_scan 159 = .ok (.ifCond .ne 67, 3) := by decide +kernel
theorem dX10_scan_162 : decode cX10_scan 162 = .ok (.aload_n 1, 1) := by decide +kernel
theorem dX10_scan_163 : decode cX10_scan 163 = .ok (.iload 5, 2) := by decide +kernel
theorem dX10_scan_165 : decode cX10_scan 165 = .ok (.iaload, 1) := by decide +kernel
theorem dX10_scan_166 : decode cX10_scan 166 = .ok (.bipush 46, 2) := by decide +kernel
theorem dX10_scan_168 : decode cX10_scan 168 = .ok (.if_icmp .ne 10, 3) := by decide +kernel
theorem dX10_scan_171 : decode cX10_scan 171 = .ok (.iload 6, 2) := by decide +kernel
theorem dX10_scan_173 : decode cX10_scan 173 = .ok (.iload 4, 2) := by decide +kernel
theorem dX10_scan_175 : decode cX10_scan 175 = .ok (.if_icmp .eq 26, 3) := by decide +kernel
theorem dX10_scan_178 : decode cX10_scan 178 = .ok (.aload_n 1, 1) := by decide +kernel
theorem dX10_scan_179 : decode cX10_scan 179 = .ok (.iload 5, 2) := by decide +kernel
theorem dX10_scan_181 : decode cX10_scan 181 = .ok (.iaload, 1) := by decide +kernel
theorem dX10_scan_182 : decode cX10_scan 182 = .ok (.sipush 128, 3) := by decide +kernel
theorem dX10_scan_185 : decode cX10_scan 185 = .ok (.if_icmp .ge 20, 3) := by decide +kernel
theorem dX10_scan_188 : decode cX10_scan 188 = .ok (.ldc 66, 2) := by decide +kernel
theorem dX10_scan_190 : decode cX10_scan 190 = .ok (.aload_n 1, 1) := by decide +kernel
theorem dX10_scan_191 : decode cX10_scan 191 = .ok (.iload 5, 2) := by decide +kernel
theorem dX10_scan_193 : decode cX10_scan 193 = .ok (.iaload, 1) := by decide +kernel
theorem dX10_scan_194 : decode cX10_scan 194 = .ok (.i2c, 1) := by decide +kernel
theorem dX10_scan_195 : decode cX10_scan 195 = .ok (.invokevirtual 68, 3) := by decide +kernel
theorem dX10_scan_198 : decode cX10_scan 198 = .ok (.ifCond .lt 7, 3) := by decide +kernel
theorem dX10_scan_201 : decode cX10_scan 201 = .ok (.iconst 1, 1) := by decide +kernel
theorem dX10_scan_202 : decode cX10_scan 202 = .ok (.goto 4, 3) := by decide +kernel
theorem dX10_scan_205 : decode cX10_scan 205 = .ok (.iconst 0, 1) := by decide +kernel
theorem dX10_scan_206 : decode cX10_scan 206 = .ok (.istore 7, 2) := by decide +kernel
theorem dX10_scan_208 : decode cX10_scan 208 = .ok (.aload_n 0, 1) := by decide +kernel
theorem dX10_scan_209 : decode cX10_scan 209 = .ok (.iload 7, 2) := by decide +kernel
theorem dX10_scan_211 : decode cX10_scan 211 = .ok (.ifCond .eq 10, 3) := by decide +kernel
theorem dX10_scan_214 : decode cX10_scan 214 = .ok (.aload_n 1, 1) := by decide +kernel
theorem dX10_scan_215 : decode cX10_scan 215 = .ok (.iload 5, 2) := by decide +kernel
theorem dX10_scan_217 : decode cX10_scan 217 = .ok (.iaload, 1) := by decide +kernel
theorem dX10_scan_218 : decode cX10_scan 218 = .ok (.goto 4, 3) := by decide +kernel
theorem dX10_scan_221 : decode cX10_scan 221 = .ok (.iconst 0, 1) := by decide +kernel
theorem dX10_scan_222 : decode cX10_scan 222 = .ok (.iconst 0, 1) := by decide +kernel
theorem dX10_scan_223 : decode cX10_scan 223 = .ok (.invokevirtual 56, 3) := by decide +kernel
theorem dX10_scan_226 : decode cX10_scan 226 = .ok (.iload 5, 2) := by decide +kernel
theorem dX10_scan_228 : decode cX10_scan 228 = .ok (.iconst 1, 1) := by decide +kernel
theorem dX10_scan_229 : decode cX10_scan 229 = .ok (.iadd, 1) := by decide +kernel
theorem dX10_scan_230 : decode cX10_scan 230 = .ok (.iload 6, 2) := by decide +kernel
theorem dX10_scan_232 : decode cX10_scan 232 = .ok (.invokestatic 38, 3) := by decide +kernel
theorem dX10_scan_235 : decode cX10_scan 235 = .ok (.istore 5, 2) := by decide +kernel
theorem dX10_scan_237 : decode cX10_scan 237 = .ok (.goto (-217), 3) := by decide +kernel
theorem dX10_scan_240 : decode cX10_scan 240 = .ok (.aload_n 0, 1) := by decide +kernel
theorem dX10_scan_241 : decode cX10_scan 241 = .ok (.getfield 28, 3) := by decide +kernel
theorem dX10_scan_244 : decode cX10_scan 244 = .ok (.ireturn, 1) := by decide +kernel
theorem dX10_scanName_0 : decode cX10_scanName 0 = .ok (.iload_n 2, 1) := by decide +kernel
theorem dX10_scanName_1 : decode cX10_scanName 1 = .ok (.iconst 1, 1) := by decide +kernel
theorem dX10_scanName_2 : decode cX10_scanName 2 = .ok (.iadd, 1) := by decide +kernel
theorem dX10_scanName_3 : decode cX10_scanName 3 = .ok (.istore 4, 2) := by decide +kernel
theorem dX10_scanName_5 : decode cX10_scanName 5 = .ok (.iload 4, 2) := by decide +kernel
theorem dX10_scanName_7 : decode cX10_scanName 7 = .ok (.iload_n 3, 1) := by decide +kernel
theorem dX10_scanName_8 : decode cX10_scanName 8 = .ok (.if_icmp .ge 19, 3) := by decide +kernel
theorem dX10_scanName_11 : decode cX10_scanName 11 = .ok (.aload_n 1, 1) := by decide +kernel
theorem dX10_scanName_12 : decode cX10_scanName 12 = .ok (.iload 4, 2) := by decide +kernel
theorem dX10_scanName_14 : decode cX10_scanName 14 = .ok (.iaload, 1) := by decide +kernel
theorem dX10_scanName_15 : decode cX10_scanName 15 = .ok (.invokestatic 74, 3) := by decide +kernel
theorem dX10_scanName_18 : decode cX10_scanName 18 = .ok (.ifCond .lt 9, 3) := by decide +kernel
theorem dX10_scanName_21 : decode cX10_scanName 21 = .ok (.iinc 4 1, 3) := by decide +kernel
theorem dX10_scanName_24 : decode cX10_scanName 24 = .ok (.goto (-19), 3) := by decide +kernel
theorem dX10_scanName_27 : decode cX10_scanName 27 = .ok (.iload 4, 2) := by decide +kernel
theorem dX10_scanName_29 : decode cX10_scanName 29 = .ok (.iload_n 2, 1) := by decide +kernel
theorem dX10_scanName_30 : decode cX10_scanName 30 = .ok (.isub, 1) := by decide +kernel
theorem dX10_scanName_31 : decode cX10_scanName 31 = .ok (.bipush 10, 2) := by decide +kernel
theorem dX10_scanName_33 : decode cX10_scanName 33 = .ok (.if_icmp .gt 37, 3) := by decide +kernel
theorem dX10_scanName_36 : decode cX10_scanName 36 = .ok (.aload_n 0, 1) := by decide +kernel
theorem dX10_scanName_37 : decode cX10_scanName 37 = .ok (.getfield 24, 3) := by decide +kernel
theorem dX10_scanName_40 : decode cX10_scanName 40 = .ok (.aload_n 1, 1) := by decide +kernel
theorem dX10_scanName_41 : decode cX10_scanName 41 = .ok (.iload_n 2, 1) := by decide +kernel
theorem dX10_scanName_42 : decode cX10_scanName 42 = .ok (.iload 4, 2) := by decide +kernel
theorem dX10_scanName_44 : decode cX10_scanName 44 = .ok (.iconst 1, 1) := by decide +kernel
theorem dX10_scanName_45 : decode cX10_scanName 45 = .ok (.invokevirtual 79, 3) := by decide +kernel
theorem dX10_scanName_48 : decode cX10_scanName 48 = .ok (.istore 5, 2) := by decide +kernel
theorem dX10_scanName_50 : decode cX10_scanName 50 = .ok (.aload_n 0, 1) := by decide +kernel
theorem dX10_scanName_51 : decode cX10_scanName 51 = .ok (.iload 5, 2) := by decide +kernel
theorem dX10_scanName_53 : decode cX10_scanName 53 = .ok (.ifCond .ge 7, 3) := by decide +kernel
theorem dX10_scanName_56 : decode cX10_scanName 56 = .ok (.iconst 0, 1) := by decide +kernel
theorem dX10_scanName_57 : decode cX10_scanName 57 = .ok (.goto 5, 3) := by decide +kernel
theorem dX10_scanName_60 : decode cX10_scanName 60 = .ok (.bipush 110, 2) := by decide +kernel
theorem dX10_scanName_62 : decode cX10_scanName 62 = .ok (.iload 5, 2) := by decide +kernel
theorem dX10_scanName_64 : decode cX10_scanName 64 = .ok (.invokevirtual 56, 3) := by decide +kernel
theorem dX10_scanName_67 : decode cX10_scanName 67 = .ok (.goto 25, 3) := by decide +kernel
theorem dX10_scanName_70 : decode cX10_scanName 70 = .ok (.iload_n 2, 1) := by decide +kernel
theorem dX10_scanName_71 : decode cX10_scanName 71 = .ok (.istore 5, 2) := by decide +kernel
theorem dX10_scanName_73 : decode cX10_scanName 73 = .ok (.iload 5, 2) := by decide +kernel
theorem dX10_scanName_75 : decode cX10_scanName 75 = .ok (.iload 4, 2) := by decide +kernel
theorem dX10_scanName_77 : decode cX10_scanName 77 = .ok (.if_icmp .ge 15, 3) := by decide +kernel
theorem dX10_scanName_80 : decode cX10_scanName 80 = .ok (.aload_n 0, 1) := by decide +kernel
theorem dX10_scanName_81 : decode cX10_scanName 81 = .ok (.iconst 0, 1) := by decide +kernel
theorem dX10_scanName_82 : decode cX10_scanName 82 = .ok (.iconst 0, 1) := by decide +kernel
theorem dX10_scanName_83 : decode cX10_scanName 83 = .ok (.invokevirtual 56, 3) := by decide +kernel
theorem dX10_scanName_86 : decode cX10_scanName 86 = .ok (.iinc 5 1, 3) := by decide +kernel
theorem dX10_scanName_89 : decode cX10_scanName 89 = .ok (.goto (-16), 3) := by decide +kernel
theorem dX10_scanName_92 : decode cX10_scanName 92 = .ok (.iload 4, 2) := by decide +kernel
theorem dX10_scanName_94 : decode cX10_scanName 94 = .ok (.ireturn, 1) := by decide +kernel
theorem dX10_add_0 : decode cX10_add 0 = .ok (.aload_n 0, 1) := by decide +kernel
theorem dX10_add_1 : decode cX10_add 1 = .ok (.getfield 28, 3) := by decide +kernel
theorem dX10_add_4 : decode cX10_add 4 = .ok (.sipush 1500, 3) := by decide +kernel
theorem dX10_add_7 : decode cX10_add 7 = .ok (.if_icmp .ge 33, 3) := by decide +kernel
theorem dX10_add_10 : decode cX10_add 10 = .ok (.aload_n 0, 1) := by decide +kernel
theorem dX10_add_11 : decode cX10_add 11 = .ok (.getfield 9, 3) := by decide +kernel
theorem dX10_add_14 : decode cX10_add 14 = .ok (.aload_n 0, 1) := by decide +kernel
theorem dX10_add_15 : decode cX10_add 15 = .ok (.getfield 28, 3) := by decide +kernel
theorem dX10_add_18 : decode cX10_add 18 = .ok (.iload_n 1, 1) := by decide +kernel
theorem dX10_add_19 : decode cX10_add 19 = .ok (.iastore, 1) := by decide +kernel
theorem dX10_add_20 : decode cX10_add 20 = .ok (.aload_n 0, 1) := by decide +kernel
theorem dX10_add_21 : decode cX10_add 21 = .ok (.getfield 15, 3) := by decide +kernel
theorem dX10_add_24 : decode cX10_add 24 = .ok (.aload_n 0, 1) := by decide +kernel
theorem dX10_add_25 : decode cX10_add 25 = .ok (.getfield 28, 3) := by decide +kernel
theorem dX10_add_28 : decode cX10_add 28 = .ok (.iload_n 2, 1) := by decide +kernel
theorem dX10_add_29 : decode cX10_add 29 = .ok (.iastore, 1) := by decide +kernel
theorem dX10_add_30 : decode cX10_add 30 = .ok (.aload_n 0, 1) := by decide +kernel
theorem dX10_add_31 : decode cX10_add 31 = .ok (.dup, 1) := by decide +kernel
theorem dX10_add_32 : decode cX10_add 32 = .ok (.getfield 28, 3) := by decide +kernel
theorem dX10_add_35 : decode cX10_add 35 = .ok (.iconst 1, 1) := by decide +kernel
theorem dX10_add_36 : decode cX10_add 36 = .ok (.iadd, 1) := by decide +kernel
theorem dX10_add_37 : decode cX10_add 37 = .ok (.putfield 28, 3) := by decide +kernel
theorem dX10_add_40 : decode cX10_add 40 = .ok (.return_, 1) := by decide +kernel
theorem dX11_opensComment_0 : decode cX11_opensComment 0 = .ok (.iload_n 1, 1) := by decide +kernel
theorem dX11_opensComment_1 : decode cX11_opensComment 1 = .ok (.ifCond .lt 38, 3) := by decide +kernel
theorem dX11_opensComment_4 : decode cX11_opensComment 4 = .ok (.iload_n 1, 1) := by decide +kernel
theorem dX11_opensComment_5 : decode cX11_opensComment 5 = .ok (.iconst 1, 1) := by decide +kernel
theorem dX11_opensComment_6 : decode cX11_opensComment 6 = .ok (.iadd, 1) := by decide +kernel
theorem dX11_opensComment_7 : decode cX11_opensComment 7 = .ok (.iload_n 2, 1) := by decide +kernel
theorem dX11_opensComment_8 : decode cX11_opensComment 8 = .ok (.if_icmp .ge 31, 3) := by decide +kernel
theorem dX11_opensComment_11 : decode cX11_opensComment 11 = .ok (.iload_n 2, 1) := by decide +kernel
theorem dX11_opensComment_12 : decode cX11_opensComment 12 = .ok (.aload_n 0, 1) := by decide +kernel
theorem dX11_opensComment_13 : decode cX11_opensComment 13 = .ok (.arraylength, 1) := by decide +kernel
theorem dX11_opensComment_14 : decode cX11_opensComment 14 = .ok (.if_icmp .gt 25, 3) := by decide +kernel
theorem dX11_opensComment_17 : decode cX11_opensComment 17 = .ok (.aload_n 0, 1) := by decide +kernel
theorem dX11_opensComment_18 : decode cX11_opensComment 18 = .ok (.iload_n 1, 1) := by decide +kernel
theorem dX11_opensComment_19 : decode cX11_opensComment 19 = .ok (.iaload, 1) := by decide +kernel
theorem dX11_opensComment_20 : decode cX11_opensComment 20 = .ok (.bipush 40, 2) := by decide +kernel
theorem dX11_opensComment_22 : decode cX11_opensComment 22 = .ok (.if_icmp .ne 17, 3) := by decide +kernel
theorem dX11_opensComment_25 : decode cX11_opensComment 25 = .ok (.aload_n 0, 1) := by decide +kernel
theorem dX11_opensComment_26 : decode cX11_opensComment 26 = .ok (.iload_n 1, 1) := by decide +kernel
theorem dX11_opensComment_27 : decode cX11_opensComment 27 = .ok (.iconst 1, 1) := by decide +kernel
theorem dX11_opensComment_28 : decode cX11_opensComment 28 = .ok (.iadd, 1) := by decide +kernel
theorem dX11_opensComment_29 : decode cX11_opensComment 29 = .ok (.iaload, 1) := by decide +kernel
theorem dX11_opensComment_30 : decode cX11_opensComment 30 = .ok (.bipush 42, 2) := by decide +kernel
theorem dX11_opensComment_32 : decode cX11_opensComment 32 = .ok (.if_icmp .ne 7, 3) := by decide +kernel
theorem dX11_opensComment_35 : decode cX11_opensComment 35 = .ok (.iconst 1, 1) := by decide +kernel
theorem dX11_opensComment_36 : decode cX11_opensComment 36 = .ok (.goto 4, 3) := by decide +kernel
theorem dX11_opensComment_39 : decode cX11_opensComment 39 = .ok (.iconst 0, 1) := by decide +kernel
theorem dX11_opensComment_40 : decode cX11_opensComment 40 = .ok (.ireturn, 1) := by decide +kernel
theorem dX11_commentEnd_0 : decode cX11_commentEnd 0 = .ok (.aload_n 0, 1) := by decide +kernel
theorem dX11_commentEnd_1 : decode cX11_commentEnd 1 = .ok (.iload_n 1, 1) := by decide +kernel
theorem dX11_commentEnd_2 : decode cX11_commentEnd 2 = .ok (.iload_n 2, 1) := by decide +kernel
theorem dX11_commentEnd_3 : decode cX11_commentEnd 3 = .ok (.invokestatic 609, 3) := by decide +kernel
theorem dX11_commentEnd_6 : decode cX11_commentEnd 6 = .ok (.ifCond .ne 5, 3) := by decide +kernel
theorem dX11_commentEnd_9 : decode cX11_commentEnd 9 = .ok (.iconst (-1), 1) := by decide +kernel
theorem dX11_commentEnd_10 : decode cX11_commentEnd 10 = .ok (.ireturn, 1) := by decide +kernel
theorem dX11_commentEnd_11 : decode cX11_commentEnd 11 = .ok (.iconst 1, 1) := by decide +kernel
theorem dX11_commentEnd_12 : decode cX11_commentEnd 12 = .ok (.istore_n 3, 1) := by decide +kernel
theorem dX11_commentEnd_13 : decode cX11_commentEnd 13 = .ok (.iload_n 1, 1) := by decide +kernel
theorem dX11_commentEnd_14 : decode cX11_commentEnd 14 = .ok (.iconst 2, 1) := by decide +kernel
theorem dX11_commentEnd_15 : decode cX11_commentEnd 15 = .ok (.iadd, 1) := by decide +kernel
theorem dX11_commentEnd_16 : decode cX11_commentEnd 16 = .ok (.istore 4, 2) := by decide +kernel
theorem dX11_commentEnd_18 : decode cX11_commentEnd 18 = .ok (.iload 4, 2) := by decide +kernel
theorem dX11_commentEnd_20 : decode cX11_commentEnd 20 = .ok (.iconst 1, 1) := by decide +kernel
theorem dX11_commentEnd_21 : decode cX11_commentEnd 21 = .ok (.iadd, 1) := by decide +kernel
theorem dX11_commentEnd_22 : decode cX11_commentEnd 22 = .ok (.iload_n 2, 1) := by decide +kernel
theorem dX11_commentEnd_23 : decode cX11_commentEnd 23 = .ok (.if_icmp .ge 73, 3) := by decide +kernel
theorem dX11_commentEnd_26 : decode cX11_commentEnd 26 = .ok (.aload_n 0, 1) := by decide +kernel
theorem dX11_commentEnd_27 : decode cX11_commentEnd 27 = .ok (.iload 4, 2) := by decide +kernel
theorem dX11_commentEnd_29 : decode cX11_commentEnd 29 = .ok (.iaload, 1) := by decide +kernel
theorem dX11_commentEnd_30 : decode cX11_commentEnd 30 = .ok (.bipush 40, 2) := by decide +kernel
theorem dX11_commentEnd_32 : decode cX11_commentEnd 32 = .ok (.if_icmp .ne 23, 3) := by decide +kernel
theorem dX11_commentEnd_35 : decode cX11_commentEnd 35 = .ok (.aload_n 0, 1) := by decide +kernel
theorem dX11_commentEnd_36 : decode cX11_commentEnd 36 = .ok (.iload 4, 2) := by decide +kernel
theorem dX11_commentEnd_38 : decode cX11_commentEnd 38 = .ok (.iconst 1, 1) := by decide +kernel
theorem dX11_commentEnd_39 : decode cX11_commentEnd 39 = .ok (.iadd, 1) := by decide +kernel
theorem dX11_commentEnd_40 : decode cX11_commentEnd 40 = .ok (.iaload, 1) := by decide +kernel
theorem dX11_commentEnd_41 : decode cX11_commentEnd 41 = .ok (.bipush 42, 2) := by decide +kernel
theorem dX11_commentEnd_43 : decode cX11_commentEnd 43 = .ok (.if_icmp .ne 12, 3) := by decide +kernel
theorem dX11_commentEnd_46 : decode cX11_commentEnd 46 = .ok (.iinc 3 1, 3) := by decide +kernel
theorem dX11_commentEnd_49 : decode cX11_commentEnd 49 = .ok (.iinc 4 1, 3) := by decide +kernel
theorem dX11_commentEnd_52 : decode cX11_commentEnd 52 = .ok (.goto 38, 3) := by decide +kernel
theorem dX11_commentEnd_55 : decode cX11_commentEnd 55 = .ok (.aload_n 0, 1) := by decide +kernel
theorem dX11_commentEnd_56 : decode cX11_commentEnd 56 = .ok (.iload 4, 2) := by decide +kernel
theorem dX11_commentEnd_58 : decode cX11_commentEnd 58 = .ok (.iaload, 1) := by decide +kernel
theorem dX11_commentEnd_59 : decode cX11_commentEnd 59 = .ok (.bipush 42, 2) := by decide +kernel
theorem dX11_commentEnd_61 : decode cX11_commentEnd 61 = .ok (.if_icmp .ne 29, 3) := by decide +kernel
theorem dX11_commentEnd_64 : decode cX11_commentEnd 64 = .ok (.aload_n 0, 1) := by decide +kernel
theorem dX11_commentEnd_65 : decode cX11_commentEnd 65 = .ok (.iload 4, 2) := by decide +kernel
theorem dX11_commentEnd_67 : decode cX11_commentEnd 67 = .ok (.iconst 1, 1) := by decide +kernel
theorem dX11_commentEnd_68 : decode cX11_commentEnd 68 = .ok (.iadd, 1) := by decide +kernel
theorem dX11_commentEnd_69 : decode cX11_commentEnd 69 = .ok (.iaload, 1) := by decide +kernel
theorem dX11_commentEnd_70 : decode cX11_commentEnd 70 = .ok (.bipush 41, 2) := by decide +kernel
theorem dX11_commentEnd_72 : decode cX11_commentEnd 72 = .ok (.if_icmp .ne 18, 3) := by decide +kernel
theorem dX11_commentEnd_75 : decode cX11_commentEnd 75 = .ok (.iinc 3 (-1), 3) := by decide +kernel
theorem dX11_commentEnd_78 : decode cX11_commentEnd 78 = .ok (.iinc 4 1, 3) := by decide +kernel
theorem dX11_commentEnd_81 : decode cX11_commentEnd 81 = .ok (.iload_n 3, 1) := by decide +kernel
theorem dX11_commentEnd_82 : decode cX11_commentEnd 82 = .ok (.ifCond .ne 8, 3) := by decide +kernel
theorem dX11_commentEnd_85 : decode cX11_commentEnd 85 = .ok (.iload 4, 2) := by decide +kernel
theorem dX11_commentEnd_87 : decode cX11_commentEnd 87 = .ok (.iconst 1, 1) := by decide +kernel
theorem dX11_commentEnd_88 : decode cX11_commentEnd 88 = .ok (.iadd, 1) := by decide +kernel
theorem dX11_commentEnd_89 : decode cX11_commentEnd 89 = .ok (.ireturn, 1) := by decide +kernel
theorem dX11_commentEnd_90 : decode cX11_commentEnd 90 = .ok (.iinc 4 1, 3) := by decide +kernel
theorem dX11_commentEnd_93 : decode cX11_commentEnd 93 = .ok (.goto (-75), 3) := by decide +kernel
theorem dX11_commentEnd_96 : decode cX11_commentEnd 96 = .ok (.iconst (-1), 1) := by decide +kernel
theorem dX11_commentEnd_97 : decode cX11_commentEnd 97 = .ok (.ireturn, 1) := by decide +kernel
def EX11_opensComment : List (Nat × Nat) := []
def EX11_commentEnd : List (Nat × Nat) := []
set_option maxHeartbeats 4000000 in
set_option maxRecDepth 20000 in
theorem uX11_opensComment (l : Launch) (dC : Nat → ClassId) (dI : Nat → Nat → Nat) (ca : Nat → ClassId) (base : Nat) (B : jF) (hB : jBok B) (hAp : jAp (dC, dI)) (hB101 : ∀ n G a H, B 101 n G a H ↔ jAr (dC, dI) (ca 1) (fun j z => True) n a H) (G0 : jT) (H0 : Heap) (r0 : Nat) (a1 : Int32) (a2 : Int32) (n0 : Nat) : Met l yX11_opensComment (jw yX11_opensComment cX11_opensComment 3 (some .boolean)) ({ frames := 0, cells := 0, slots := 0, locals := 0 }) (va_Pc [.ref r0, .int a1, .int a2] (fun U => U.heap = H0 ∧ jX B base G0 [] H0 ∧ jG dC dI ca base U ∧ G0 r0 = some (101, n0) ∧ jP (dC, dI) G0 H0 [] ∧ n0 < 1000000 ∧ a1.toInt ≤ 1000000)) (va_Qi (S := Unit) (fun r u => (r = 0 ∨ r = 1) ∧ (r.toInt = 0 ∨ (0 ≤ a1.toInt ∧ a1.toInt + 1 < a2.toInt ∧ a2.toInt ≤ n0))) (fun u t => jRt (dC, dI) B base G0 EX11_opensComment H0 [] t.heap) (jA base)) 0 0 (jA base) := by
  refine Met.ofW (cc := cX11_opensComment) (maxL := 3) (ret := (some .boolean)) (by decide) rfl ?_
  intro p e s m args below meth c s₁ Bd hml hv
  obtain ⟨rfl, hH0, hX, hG, hg_r0, hP0, hp0, hp1⟩ := hv
  have hK := hG.1
  have hx := Bd.exec
  have hb := Bd.bytes
  have hr := Bd.returns
  have hts := atoms_spec (ws := (jw yX11_opensComment cX11_opensComment 3 (some .boolean))) Bd.pre
  have htw : ∀ w ∈ jWl, w.before _ s = true := fun w h => hts w (List.mem_cons_of_mem _ h)
  have hown : s.vm.findClass RX11 = some m.cls := findClass_of_methodNamed Bd.named
  have hlocks := Bd.notSynchronized
  obtain ⟨Q, hQ⟩ : ∃ Q, Q = MQ below (va_Qi (S := Unit) (fun r u => (r = 0 ∨ r = 1) ∧ (r.toInt = 0 ∨ (0 ≤ a1.toInt ∧ a1.toInt + 1 < a2.toInt ∧ a2.toInt ≤ n0))) (fun u t => jRt (dC, dI) B base G0 EX11_opensComment H0 [] t.heap) (jA base)) ([.ref r0, .int a1, .int a2] : List Value).toArray s 0 0 (jA base) := ⟨_, rfl⟩
  rw [← hQ]
  have hl := lv_entry ([.ref r0, .int a1, .int a2]) (n := 3) (Nat.le_of_ble_eq_true rfl)
  rw [lg_entry_eq]
  generalize (lg_sl ([.ref r0, .int a1, .int a2]) ++ List.replicate (3 - (lg_sl ([.ref r0, .int a1, .int a2])).length) Slot.unset).toArray = ls at hl ⊢
  have hl : lv_has ls 3 [(0, .ref r0), (1, .int a1), (2, .int a2)] := hl
  generalize hR : (headSpec (jw yX11_opensComment cX11_opensComment 3 (some .boolean)) ({ frames := 0, cells := 0, slots := 0, locals := 0 })).room = R
  subst hH0
  have hh : jSt (dC, dI) B base G0 G0 EX11_opensComment s.heap 0 0 [] [] [] s.heap [] := jSt.start hX hP0 jMc.nil jIs.nil
  clear hX hP0
  have hk0 : (0 : Int32).toInt = 0 := by decide
  have hk1 : (1 : Int32).toInt = 1 := by decide
  have hk40 : (40 : Int32).toInt = 40 := by decide
  have hk42 : (42 : Int32).toInt = 42 := by decide
  have hrg_a1 := jb_rng a1
  have hrg_a2 := jb_rng a2
  refine lv_iload_n hx hb dX11_opensComment_0 rfl (lv_at hl 1 rfl) ?_
  refine lv_if_lt (tgt := 39) hx hb dX11_opensComment_1 (by decide) (fun c_1 => ?_) (fun c_1 => ?_)
  · skip
    have c_1' : a1.toInt < 0 := jb_lt (rfl) ((by decide)) c_1
    refine lv_iconst (v := 0) hx hb dX11_opensComment_39 (by decide) ?_
    rw [hQ]
    exact W.zret (v := 0) hx hb hr (jb_nz (Or.inl rfl)) (fun t ht hW => ⟨⟨0, (), rfl, ⟨(Or.inl rfl), by first | omega | rfl | assumption | decide | exact Or.inl rfl | exact Or.inr rfl | (simp only; omega)⟩, hh.rt (M1 := []) [] rfl ht⟩, by rw [ht]; try exact hh.1.1, fun q h9 hq => by rw [ht]; try exact hh.1.2.1 q h9 hq⟩) hh.1.2.2 dX11_opensComment_40
  · skip
    have c_1' : a1.toInt ≥ 0 := jb_lt_n (rfl) ((by decide)) c_1
    refine lv_iload_n hx hb dX11_opensComment_4 rfl (lv_at hl 1 rfl) ?_
    refine lv_iconst (v := 1) hx hb dX11_opensComment_5 (by decide) ?_
    refine lv_iadd hx hb dX11_opensComment_6 ?_
    refine lv_topi (fun z_2 ez_2 => ?_)
    have hz_2 : z_2.toInt = a1.toInt + 1 := by rw [ez_2]; exact jb_iadd2 (rfl) ((by decide)) (by omega)
    refine lv_iload_n hx hb dX11_opensComment_7 rfl (lv_at hl 2 rfl) ?_
    refine lv_icmp_ge (tgt := 39) hx hb dX11_opensComment_8 (by decide) (fun c_3 => ?_) (fun c_3 => ?_)
    · skip
      have c_3' : z_2.toInt ≥ a2.toInt := jb_ge (rfl) (rfl) c_3
      refine lv_iconst (v := 0) hx hb dX11_opensComment_39 (by decide) ?_
      rw [hQ]
      exact W.zret (v := 0) hx hb hr (jb_nz (Or.inl rfl)) (fun t ht hW => ⟨⟨0, (), rfl, ⟨(Or.inl rfl), by first | omega | rfl | assumption | decide | exact Or.inl rfl | exact Or.inr rfl | (simp only; omega)⟩, hh.rt (M1 := []) [] rfl ht⟩, by rw [ht]; try exact hh.1.1, fun q h9 hq => by rw [ht]; try exact hh.1.2.1 q h9 hq⟩) hh.1.2.2 dX11_opensComment_40
    · skip
      have c_3' : z_2.toInt < a2.toInt := jb_ge_n (rfl) (rfl) c_3
      refine lv_iload_n hx hb dX11_opensComment_11 rfl (lv_at hl 2 rfl) ?_
      refine lv_aload_n hx hb dX11_opensComment_12 rfl (lv_at hl 0 rfl) ?_
      refine j7_len hx hb hK hh hB101 1 rfl (by decide) hg_r0 (by omega) dX11_opensComment_13 (fun z_4 hz_4 => ?_)
      refine lv_icmp_gt (tgt := 39) hx hb dX11_opensComment_14 (by decide) (fun c_5 => ?_) (fun c_5 => ?_)
      · skip
        have c_5' : a2.toInt > z_4.toInt := jb_gt (rfl) (rfl) c_5
        refine lv_iconst (v := 0) hx hb dX11_opensComment_39 (by decide) ?_
        rw [hQ]
        exact W.zret (v := 0) hx hb hr (jb_nz (Or.inl rfl)) (fun t ht hW => ⟨⟨0, (), rfl, ⟨(Or.inl rfl), by first | omega | rfl | assumption | decide | exact Or.inl rfl | exact Or.inr rfl | (simp only; omega)⟩, hh.rt (M1 := []) [] rfl ht⟩, by rw [ht]; try exact hh.1.1, fun q h9 hq => by rw [ht]; try exact hh.1.2.1 q h9 hq⟩) hh.1.2.2 dX11_opensComment_40
      · skip
        have c_5' : a2.toInt ≤ z_4.toInt := jb_gt_n (rfl) (rfl) c_5
        refine lv_aload_n hx hb dX11_opensComment_17 rfl (lv_at hl 0 rfl) ?_
        refine lv_iload_n hx hb dX11_opensComment_18 rfl (lv_at hl 1 rfl) ?_
        refine j7_iald hx hb hK hh hB101 1 rfl (by decide) hg_r0 (x := a1.toInt) (rfl) (by omega) dX11_opensComment_19 (fun z_6 (hz_6 : True) => ?_)
        refine lv_bipush (v := 40) hx hb dX11_opensComment_20 (by decide) ?_
        refine lv_icmp_ne (tgt := 39) hx hb dX11_opensComment_22 (by decide) (fun c_7 => ?_) (fun c_7 => ?_)
        · skip
          have c_7' : z_6.toInt ≠ 40 := jb_ne (rfl) ((by decide)) c_7
          refine lv_iconst (v := 0) hx hb dX11_opensComment_39 (by decide) ?_
          rw [hQ]
          exact W.zret (v := 0) hx hb hr (jb_nz (Or.inl rfl)) (fun t ht hW => ⟨⟨0, (), rfl, ⟨(Or.inl rfl), by first | omega | rfl | assumption | decide | exact Or.inl rfl | exact Or.inr rfl | (simp only; omega)⟩, hh.rt (M1 := []) [] rfl ht⟩, by rw [ht]; try exact hh.1.1, fun q h9 hq => by rw [ht]; try exact hh.1.2.1 q h9 hq⟩) hh.1.2.2 dX11_opensComment_40
        · skip
          have c_7' : z_6.toInt = 40 := jb_ne_n (rfl) ((by decide)) c_7
          refine lv_aload_n hx hb dX11_opensComment_25 rfl (lv_at hl 0 rfl) ?_
          refine lv_iload_n hx hb dX11_opensComment_26 rfl (lv_at hl 1 rfl) ?_
          refine lv_iconst (v := 1) hx hb dX11_opensComment_27 (by decide) ?_
          refine lv_iadd hx hb dX11_opensComment_28 ?_
          refine lv_topi (fun z_8 ez_8 => ?_)
          have hz_8 : z_8.toInt = a1.toInt + 1 := by rw [ez_8]; exact jb_iadd2 (rfl) ((by decide)) (by omega)
          refine j7_iald hx hb hK hh hB101 1 rfl (by decide) hg_r0 (x := z_8.toInt) (rfl) (by omega) dX11_opensComment_29 (fun z_9 (hz_9 : True) => ?_)
          refine lv_bipush (v := 42) hx hb dX11_opensComment_30 (by decide) ?_
          refine lv_icmp_ne (tgt := 39) hx hb dX11_opensComment_32 (by decide) (fun c_10 => ?_) (fun c_10 => ?_)
          · skip
            have c_10' : z_9.toInt ≠ 42 := jb_ne (rfl) ((by decide)) c_10
            refine lv_iconst (v := 0) hx hb dX11_opensComment_39 (by decide) ?_
            rw [hQ]
            exact W.zret (v := 0) hx hb hr (jb_nz (Or.inl rfl)) (fun t ht hW => ⟨⟨0, (), rfl, ⟨(Or.inl rfl), by first | omega | rfl | assumption | decide | exact Or.inl rfl | exact Or.inr rfl | (simp only; omega)⟩, hh.rt (M1 := []) [] rfl ht⟩, by rw [ht]; try exact hh.1.1, fun q h9 hq => by rw [ht]; try exact hh.1.2.1 q h9 hq⟩) hh.1.2.2 dX11_opensComment_40
          · skip
            have c_10' : z_9.toInt = 42 := jb_ne_n (rfl) ((by decide)) c_10
            refine lv_iconst (v := 1) hx hb dX11_opensComment_35 (by decide) ?_
            refine lv_goto (tgt := 40) hx hb dX11_opensComment_36 (by decide) ?_
            rw [hQ]
            exact W.zret (v := 1) hx hb hr (jb_nz (Or.inr rfl)) (fun t ht hW => ⟨⟨1, (), rfl, ⟨(Or.inr rfl), by first | omega | rfl | assumption | decide | exact Or.inl rfl | exact Or.inr rfl | (simp only; omega)⟩, hh.rt (M1 := []) [] rfl ht⟩, by rw [ht]; try exact hh.1.1, fun q h9 hq => by rw [ht]; try exact hh.1.2.1 q h9 hq⟩) hh.1.2.2 dX11_opensComment_40
set_option maxHeartbeats 4000000 in
set_option maxRecDepth 20000 in
theorem uX11_commentEnd (l : Launch) (dC : Nat → ClassId) (dI : Nat → Nat → Nat) (ca : Nat → ClassId) (base : Nat) (B : jF) (hB : jBok B) (hAp : jAp (dC, dI)) (hB101 : ∀ n G a H, B 101 n G a H ↔ jAr (dC, dI) (ca 1) (fun j z => True) n a H) (G0 : jT) (H0 : Heap) (r0 : Nat) (a1 : Int32) (a2 : Int32) (n0 : Nat) : Met l yX11_commentEnd (jw yX11_commentEnd cX11_commentEnd 5 (some .int)) ({ frames := 1, cells := 0, slots := 0, locals := 22 }) (va_Pc [.ref r0, .int a1, .int a2] (fun U => U.heap = H0 ∧ jX B base G0 [] H0 ∧ jG dC dI ca base U ∧ G0 r0 = some (101, n0) ∧ jP (dC, dI) G0 H0 [] ∧ n0 < 1000000 ∧ a1.toInt ≤ 1000000)) (va_Qi (S := Unit) (fun r u => (r.toInt = -1 ∨ (a1.toInt + 4 ≤ r.toInt ∧ r.toInt ≤ a2.toInt))) (fun u t => jRt (dC, dI) B base G0 EX11_commentEnd H0 [] t.heap) (jA base)) 0 0 (jA base) := by
  refine Met.ofW (cc := cX11_commentEnd) (maxL := 5) (ret := (some .int)) (by decide) rfl ?_
  intro p e s m args below meth c s₁ Bd hml hv
  obtain ⟨rfl, hH0, hX, hG, hg_r0, hP0, hp0, hp1⟩ := hv
  have hK := hG.1
  have hx := Bd.exec
  have hb := Bd.bytes
  have hr := Bd.returns
  have hts := atoms_spec (ws := (jw yX11_commentEnd cX11_commentEnd 5 (some .int))) Bd.pre
  have htw : ∀ w ∈ jWl, w.before _ s = true := fun w h => hts w (List.mem_cons_of_mem _ h)
  have hown : s.vm.findClass RX11 = some m.cls := findClass_of_methodNamed Bd.named
  have hlocks := Bd.notSynchronized
  obtain ⟨Q, hQ⟩ : ∃ Q, Q = MQ below (va_Qi (S := Unit) (fun r u => (r.toInt = -1 ∨ (a1.toInt + 4 ≤ r.toInt ∧ r.toInt ≤ a2.toInt))) (fun u t => jRt (dC, dI) B base G0 EX11_commentEnd H0 [] t.heap) (jA base)) ([.ref r0, .int a1, .int a2] : List Value).toArray s 0 0 (jA base) := ⟨_, rfl⟩
  rw [← hQ]
  have hl := lv_entry ([.ref r0, .int a1, .int a2]) (n := 5) (Nat.le_of_ble_eq_true rfl)
  rw [lg_entry_eq]
  generalize (lg_sl ([.ref r0, .int a1, .int a2]) ++ List.replicate (5 - (lg_sl ([.ref r0, .int a1, .int a2])).length) Slot.unset).toArray = ls at hl ⊢
  have hl : lv_has ls 5 [(0, .ref r0), (1, .int a1), (2, .int a2)] := hl
  generalize hR : (headSpec (jw yX11_commentEnd cX11_commentEnd 5 (some .int)) ({ frames := 1, cells := 0, slots := 0, locals := 22 })).room = R
  subst hH0
  have hh : jSt (dC, dI) B base G0 G0 EX11_commentEnd s.heap 0 0 [] [] [] s.heap [] := jSt.start hX hP0 jMc.nil jIs.nil
  clear hX hP0
  have hkm1 : ((-1) : Int32).toInt = (-1) := by decide
  have hk0 : (0 : Int32).toInt = 0 := by decide
  have hk1 : (1 : Int32).toInt = 1 := by decide
  have hk2 : (2 : Int32).toInt = 2 := by decide
  have hk40 : (40 : Int32).toInt = 40 := by decide
  have hk41 : (41 : Int32).toInt = 41 := by decide
  have hk42 : (42 : Int32).toInt = 42 := by decide
  have hrg_a1 := jb_rng a1
  have hrg_a2 := jb_rng a2
  refine lv_aload_n hx hb dX11_commentEnd_0 rfl (lv_at hl 0 rfl) ?_
  refine lv_iload_n hx hb dX11_commentEnd_1 rfl (lv_at hl 1 rfl) ?_
  refine lv_iload_n hx hb dX11_commentEnd_2 rfl (lv_at hl 2 rfl) ?_
  refine va_calli (A0 := jA base) (H0 := s.heap) (va_runS (As := [.ref r0, .int a1, .int a2]) (rest := []) ⟨hx, hb, hml, hown, hts⟩ (uX11_opensComment l dC dI ca base B hB hAp hB101 G0 s.heap r0 a1 a2 n0) (va_cwS 3 hts (jgS (jWr_36 _ (List.mem_of_getElem? (i := 12) rfl)) (jWr_36 _ (List.mem_of_getElem? (i := 13) rfl)) (jWr_1 _ (List.mem_of_getElem? (i := 2) rfl)) (jWr_36 _ (List.mem_of_getElem? (i := 14) rfl))) rfl rfl rfl (by decide +kernel) ⟨by rw [← hR]; exact Nat.le_of_ble_eq_true rfl, by rw [← hR]; exact Nat.le_of_ble_eq_true rfl⟩) ⟨fun a U g mk q => by obtain ⟨q0, q1, q2, qK, q10, q11, q12⟩ := q; exact ⟨q0, q1, q2, jG.calling g mk a qK, q10, q11, q12⟩, fun U hU hW => ⟨rfl, hU, hh.2.1, hG.step hW hU hh.1, hg_r0, jP.nil, by first | omega | (refine ⟨?_, ?_⟩ <;> (first | omega | rfl | assumption | decide | exact Or.inl rfl | exact Or.inr rfl | (simp only; omega)))⟩⟩ rfl rfl hl.1 rfl (lv_room (Nat.le_of_ble_eq_true rfl)) dX11_commentEnd_3 ⟨Nat.zero_le _, Nat.zero_le _⟩) hh.1 (fun q _ h => h) (fun q h => h) (fun r_2 u_1 t_1 H_1 locs_1 ht_1 hvm_1 hr_2 hb_1 hz_1 hk_1 hS_1 => ?_)
  rw [ht_1] at hb_1
  obtain ⟨hb_11, hb_12, hb_13, hb_14, hb_15⟩ := hb_1
  have hh_1 : jSt (dC, dI) B base G0 G0 EX11_commentEnd s.heap 0 0 [] [] [] H_1 locs_1 := ((hh.call hb_11 hb_12 hb_13 hb_14 hS_1 rfl (L1 := []) [] rfl rfl (M1 := []) [] rfl rfl (I1 := []) [] rfl rfl).more hb_15)
  clear hh ht_1 hvm_1 hz_1 hk_1 hS_1 hb_11 hb_12 hb_13 hb_14 hb_15
  obtain ⟨hr_2b, hr_2p⟩ := hr_2
  have hr_2' := jb_01 hr_2b
  refine lv_if_ne (tgt := 11) hx hb dX11_commentEnd_6 (by decide) (fun c_3 => ?_) (fun c_3 => ?_)
  · skip
    have c_3' : r_2.toInt ≠ 0 := jb_ne (rfl) ((by decide)) c_3
    first | (have hr_2pq := hr_2p.resolve_left (by omega); clear hr_2p) | (have hr_2pq := hr_2p.resolve_right (by omega); clear hr_2p) | try clear hr_2p
    refine lv_iconst (v := 1) hx hb dX11_commentEnd_11 (by decide) ?_
    refine lv_istore_n (lv' := [(3, .int 1), (0, .ref r0), (1, .int a1), (2, .int a2)]) hx hb dX11_commentEnd_12 rfl hl (by decide) rfl (fun ls hl => ?_)
    refine lv_iload_n hx hb dX11_commentEnd_13 rfl (lv_at hl 2 rfl) ?_
    refine lv_iconst (v := 2) hx hb dX11_commentEnd_14 (by decide) ?_
    refine lv_iadd hx hb dX11_commentEnd_15 ?_
    refine lv_topi (fun z_4 ez_4 => ?_)
    have hz_4 : z_4.toInt = a1.toInt + 2 := by rw [ez_4]; exact jb_iadd2 (rfl) ((by decide)) (by omega)
    refine lv_istore (lv' := [(4, .int z_4), (3, .int 1), (0, .ref r0), (1, .int a1), (2, .int a2)]) hx hb dX11_commentEnd_16 hl (by decide) rfl (fun ls hl => ?_)
    have L18 : ∀ (N : Nat) (v3_5 : Int32) (v4_5 : Int32) (H_5 : Heap) (locs_5 : List Loc), jSt (dC, dI) B base G0 G0 EX11_commentEnd s.heap 0 0 [] [] [] H_5 locs_5 → (a1.toInt + 2 ≤ v4_5.toInt ∧ v4_5.toInt ≤ a2.toInt + 2 ∧ 1 ≤ v3_5.toInt ∧ v3_5.toInt ≤ v4_5.toInt) → (((a2.toInt - v4_5.toInt).toNat : Int) : Int) < N → ∀ ls : Array Slot, lv_has ls 5 [(0, .ref r0), (1, .int a1), (2, .int a2), (3, .int v3_5), (4, .int v4_5)] → W p l e R s m ([.ref r0, .int a1, .int a2] : List Value).toArray below meth c H_5 locs_5 0 0 Q (F0 m 18 ls []) := by
      intro N
      induction N with
      | zero => intro v3_5 v4_5 H_5 locs_5 hh_5  hi_5 hm; exact absurd hm (by omega)
      | succ N L18 =>
        intro v3_5 v4_5 H_5 locs_5 hh_5  hi_5 hm_5 ls hl
        obtain ⟨hi_5_0, hi_5_1, hi_5_2, hi_5_3⟩ := hi_5
        refine lv_iload hx hb dX11_commentEnd_18 (lv_at hl 4 rfl) ?_
        refine lv_iconst (v := 1) hx hb dX11_commentEnd_20 (by decide) ?_
        refine lv_iadd hx hb dX11_commentEnd_21 ?_
        refine lv_topi (fun z_6 ez_6 => ?_)
        have hz_6 : z_6.toInt = v4_5.toInt + 1 := by rw [ez_6]; exact jb_iadd2 (rfl) ((by decide)) (by omega)
        refine lv_iload_n hx hb dX11_commentEnd_22 rfl (lv_at hl 2 rfl) ?_
        refine lv_icmp_ge (tgt := 96) hx hb dX11_commentEnd_23 (by decide) (fun c_7 => ?_) (fun c_7 => ?_)
        · skip
          have c_7' : z_6.toInt ≥ a2.toInt := jb_ge (rfl) (rfl) c_7
          refine lv_iconst (v := (-1)) hx hb dX11_commentEnd_96 (by decide) ?_
          rw [hQ]
          exact W.iret (v := (-1)) hx hb hr (fun t ht hW => ⟨⟨(-1), (), rfl, by first | omega | rfl | assumption | decide | exact Or.inl rfl | exact Or.inr rfl | (simp only; omega), hh_5.rt (M1 := []) [] rfl ht⟩, by rw [ht]; try exact hh_5.1.1, fun q h9 hq => by rw [ht]; try exact hh_5.1.2.1 q h9 hq⟩) hh_5.1.2.2 dX11_commentEnd_97
        · skip
          have c_7' : z_6.toInt < a2.toInt := jb_ge_n (rfl) (rfl) c_7
          refine lv_aload_n hx hb dX11_commentEnd_26 rfl (lv_at hl 0 rfl) ?_
          refine lv_iload hx hb dX11_commentEnd_27 (lv_at hl 4 rfl) ?_
          refine j7_iald hx hb hK hh_5 hB101 1 rfl (by decide) hg_r0 (x := v4_5.toInt) (rfl) (by omega) dX11_commentEnd_29 (fun z_8 (hz_8 : True) => ?_)
          refine lv_bipush (v := 40) hx hb dX11_commentEnd_30 (by decide) ?_
          refine lv_icmp_ne (tgt := 55) hx hb dX11_commentEnd_32 (by decide) (fun c_9 => ?_) (fun c_9 => ?_)
          · skip
            have c_9' : z_8.toInt ≠ 40 := jb_ne (rfl) ((by decide)) c_9
            refine lv_aload_n hx hb dX11_commentEnd_55 rfl (lv_at hl 0 rfl) ?_
            refine lv_iload hx hb dX11_commentEnd_56 (lv_at hl 4 rfl) ?_
            refine j7_iald hx hb hK hh_5 hB101 1 rfl (by decide) hg_r0 (x := v4_5.toInt) (rfl) (by omega) dX11_commentEnd_58 (fun z_10 (hz_10 : True) => ?_)
            refine lv_bipush (v := 42) hx hb dX11_commentEnd_59 (by decide) ?_
            refine lv_icmp_ne (tgt := 90) hx hb dX11_commentEnd_61 (by decide) (fun c_11 => ?_) (fun c_11 => ?_)
            · skip
              have c_11' : z_10.toInt ≠ 42 := jb_ne (rfl) ((by decide)) c_11
              obtain ⟨z_12, ez_12⟩ : ∃ y : Int32, y = v4_5 + 1 := ⟨_, rfl⟩
              refine lv_iinc (v := z_12) (lv' := [(4, .int z_12), (0, .ref r0), (1, .int a1), (2, .int a2), (3, .int v3_5)]) hx hb dX11_commentEnd_90 hl (k := 4) rfl (by rw [ez_12]; rfl) (by decide) rfl (fun ls hl => ?_)
              have hz_12 : z_12.toInt = v4_5.toInt + 1 := by rw [ez_12]; exact jb_iadd2 (rfl) (by decide) (by omega)
              refine lv_goto (tgt := 18) hx hb dX11_commentEnd_93 (by decide) ?_
              exact L18 v3_5 z_12 _ _ hh_5 (by first | omega | (refine ⟨?_, ?_, ?_, ?_⟩ <;> (first | omega | rfl | assumption | decide | exact Or.inl rfl | exact Or.inr rfl | (simp only; omega)))) (by omega) _ (lv_sub hl [1, 2, 3, 4, 0] rfl)
            · skip
              have c_11' : z_10.toInt = 42 := jb_ne_n (rfl) ((by decide)) c_11
              refine lv_aload_n hx hb dX11_commentEnd_64 rfl (lv_at hl 0 rfl) ?_
              refine lv_iload hx hb dX11_commentEnd_65 (lv_at hl 4 rfl) ?_
              refine lv_iconst (v := 1) hx hb dX11_commentEnd_67 (by decide) ?_
              refine lv_iadd hx hb dX11_commentEnd_68 ?_
              refine lv_topi (fun z_13 ez_13 => ?_)
              have hz_13 : z_13.toInt = v4_5.toInt + 1 := by rw [ez_13]; exact jb_iadd2 (rfl) ((by decide)) (by omega)
              refine j7_iald hx hb hK hh_5 hB101 1 rfl (by decide) hg_r0 (x := z_13.toInt) (rfl) (by omega) dX11_commentEnd_69 (fun z_14 (hz_14 : True) => ?_)
              refine lv_bipush (v := 41) hx hb dX11_commentEnd_70 (by decide) ?_
              refine lv_icmp_ne (tgt := 90) hx hb dX11_commentEnd_72 (by decide) (fun c_15 => ?_) (fun c_15 => ?_)
              · skip
                have c_15' : z_14.toInt ≠ 41 := jb_ne (rfl) ((by decide)) c_15
                obtain ⟨z_16, ez_16⟩ : ∃ y : Int32, y = v4_5 + 1 := ⟨_, rfl⟩
                refine lv_iinc (v := z_16) (lv' := [(4, .int z_16), (0, .ref r0), (1, .int a1), (2, .int a2), (3, .int v3_5)]) hx hb dX11_commentEnd_90 hl (k := 4) rfl (by rw [ez_16]; rfl) (by decide) rfl (fun ls hl => ?_)
                have hz_16 : z_16.toInt = v4_5.toInt + 1 := by rw [ez_16]; exact jb_iadd2 (rfl) (by decide) (by omega)
                refine lv_goto (tgt := 18) hx hb dX11_commentEnd_93 (by decide) ?_
                exact L18 v3_5 z_16 _ _ hh_5 (by first | omega | (refine ⟨?_, ?_, ?_, ?_⟩ <;> (first | omega | rfl | assumption | decide | exact Or.inl rfl | exact Or.inr rfl | (simp only; omega)))) (by omega) _ (lv_sub hl [1, 2, 3, 4, 0] rfl)
              · skip
                have c_15' : z_14.toInt = 41 := jb_ne_n (rfl) ((by decide)) c_15
                obtain ⟨z_17, ez_17⟩ : ∃ y : Int32, y = v3_5 + (-1) := ⟨_, rfl⟩
                refine lv_iinc (v := z_17) (lv' := [(3, .int z_17), (0, .ref r0), (1, .int a1), (2, .int a2), (4, .int v4_5)]) hx hb dX11_commentEnd_75 hl (k := 3) rfl (by rw [ez_17]; rfl) (by decide) rfl (fun ls hl => ?_)
                have hz_17 : z_17.toInt = v3_5.toInt + (-1) := by rw [ez_17]; exact jb_iadd2 (rfl) (by decide) (by omega)
                obtain ⟨z_18, ez_18⟩ : ∃ y : Int32, y = v4_5 + 1 := ⟨_, rfl⟩
                refine lv_iinc (v := z_18) (lv' := [(4, .int z_18), (3, .int z_17), (0, .ref r0), (1, .int a1), (2, .int a2)]) hx hb dX11_commentEnd_78 hl (k := 4) rfl (by rw [ez_18]; rfl) (by decide) rfl (fun ls hl => ?_)
                have hz_18 : z_18.toInt = v4_5.toInt + 1 := by rw [ez_18]; exact jb_iadd2 (rfl) (by decide) (by omega)
                refine lv_iload_n hx hb dX11_commentEnd_81 rfl (lv_at hl 1 rfl) ?_
                refine lv_if_ne (tgt := 90) hx hb dX11_commentEnd_82 (by decide) (fun c_19 => ?_) (fun c_19 => ?_)
                · skip
                  have c_19' : z_17.toInt ≠ 0 := jb_ne (rfl) ((by decide)) c_19
                  obtain ⟨z_20, ez_20⟩ : ∃ y : Int32, y = z_18 + 1 := ⟨_, rfl⟩
                  refine lv_iinc (v := z_20) (lv' := [(4, .int z_20), (3, .int z_17), (0, .ref r0), (1, .int a1), (2, .int a2)]) hx hb dX11_commentEnd_90 hl (k := 0) rfl (by rw [ez_20]; rfl) (by decide) rfl (fun ls hl => ?_)
                  have hz_20 : z_20.toInt = z_18.toInt + 1 := by rw [ez_20]; exact jb_iadd2 (rfl) (by decide) (by omega)
                  refine lv_goto (tgt := 18) hx hb dX11_commentEnd_93 (by decide) ?_
                  exact L18 z_17 z_20 _ _ hh_5 (by first | omega | (refine ⟨?_, ?_, ?_, ?_⟩ <;> (first | omega | rfl | assumption | decide | exact Or.inl rfl | exact Or.inr rfl | (simp only; omega)))) (by omega) _ (lv_sub hl [2, 3, 4, 1, 0] rfl)
                · skip
                  have c_19' : z_17.toInt = 0 := jb_ne_n (rfl) ((by decide)) c_19
                  refine lv_iload hx hb dX11_commentEnd_85 (lv_at hl 0 rfl) ?_
                  refine lv_iconst (v := 1) hx hb dX11_commentEnd_87 (by decide) ?_
                  refine lv_iadd hx hb dX11_commentEnd_88 ?_
                  refine lv_topi (fun z_21 ez_21 => ?_)
                  have hz_21 : z_21.toInt = z_18.toInt + 1 := by rw [ez_21]; exact jb_iadd2 (rfl) ((by decide)) (by omega)
                  rw [hQ]
                  exact W.iret (v := z_21) hx hb hr (fun t ht hW => ⟨⟨z_21, (), rfl, by first | omega | rfl | assumption | decide | exact Or.inl rfl | exact Or.inr rfl | (simp only; omega), hh_5.rt (M1 := []) [] rfl ht⟩, by rw [ht]; try exact hh_5.1.1, fun q h9 hq => by rw [ht]; try exact hh_5.1.2.1 q h9 hq⟩) hh_5.1.2.2 dX11_commentEnd_89
          · skip
            have c_9' : z_8.toInt = 40 := jb_ne_n (rfl) ((by decide)) c_9
            refine lv_aload_n hx hb dX11_commentEnd_35 rfl (lv_at hl 0 rfl) ?_
            refine lv_iload hx hb dX11_commentEnd_36 (lv_at hl 4 rfl) ?_
            refine lv_iconst (v := 1) hx hb dX11_commentEnd_38 (by decide) ?_
            refine lv_iadd hx hb dX11_commentEnd_39 ?_
            refine lv_topi (fun z_22 ez_22 => ?_)
            have hz_22 : z_22.toInt = v4_5.toInt + 1 := by rw [ez_22]; exact jb_iadd2 (rfl) ((by decide)) (by omega)
            refine j7_iald hx hb hK hh_5 hB101 1 rfl (by decide) hg_r0 (x := z_22.toInt) (rfl) (by omega) dX11_commentEnd_40 (fun z_23 (hz_23 : True) => ?_)
            refine lv_bipush (v := 42) hx hb dX11_commentEnd_41 (by decide) ?_
            refine lv_icmp_ne (tgt := 55) hx hb dX11_commentEnd_43 (by decide) (fun c_24 => ?_) (fun c_24 => ?_)
            · skip
              have c_24' : z_23.toInt ≠ 42 := jb_ne (rfl) ((by decide)) c_24
              refine lv_aload_n hx hb dX11_commentEnd_55 rfl (lv_at hl 0 rfl) ?_
              refine lv_iload hx hb dX11_commentEnd_56 (lv_at hl 4 rfl) ?_
              refine j7_iald hx hb hK hh_5 hB101 1 rfl (by decide) hg_r0 (x := v4_5.toInt) (rfl) (by omega) dX11_commentEnd_58 (fun z_25 (hz_25 : True) => ?_)
              refine lv_bipush (v := 42) hx hb dX11_commentEnd_59 (by decide) ?_
              refine lv_icmp_ne (tgt := 90) hx hb dX11_commentEnd_61 (by decide) (fun c_26 => ?_) (fun c_26 => ?_)
              · skip
                have c_26' : z_25.toInt ≠ 42 := jb_ne (rfl) ((by decide)) c_26
                obtain ⟨z_27, ez_27⟩ : ∃ y : Int32, y = v4_5 + 1 := ⟨_, rfl⟩
                refine lv_iinc (v := z_27) (lv' := [(4, .int z_27), (0, .ref r0), (1, .int a1), (2, .int a2), (3, .int v3_5)]) hx hb dX11_commentEnd_90 hl (k := 4) rfl (by rw [ez_27]; rfl) (by decide) rfl (fun ls hl => ?_)
                have hz_27 : z_27.toInt = v4_5.toInt + 1 := by rw [ez_27]; exact jb_iadd2 (rfl) (by decide) (by omega)
                refine lv_goto (tgt := 18) hx hb dX11_commentEnd_93 (by decide) ?_
                exact L18 v3_5 z_27 _ _ hh_5 (by first | omega | (refine ⟨?_, ?_, ?_, ?_⟩ <;> (first | omega | rfl | assumption | decide | exact Or.inl rfl | exact Or.inr rfl | (simp only; omega)))) (by omega) _ (lv_sub hl [1, 2, 3, 4, 0] rfl)
              · skip
                have c_26' : z_25.toInt = 42 := jb_ne_n (rfl) ((by decide)) c_26
                refine lv_aload_n hx hb dX11_commentEnd_64 rfl (lv_at hl 0 rfl) ?_
                refine lv_iload hx hb dX11_commentEnd_65 (lv_at hl 4 rfl) ?_
                refine lv_iconst (v := 1) hx hb dX11_commentEnd_67 (by decide) ?_
                refine lv_iadd hx hb dX11_commentEnd_68 ?_
                refine lv_topi (fun z_28 ez_28 => ?_)
                have hz_28 : z_28.toInt = v4_5.toInt + 1 := by rw [ez_28]; exact jb_iadd2 (rfl) ((by decide)) (by omega)
                refine j7_iald hx hb hK hh_5 hB101 1 rfl (by decide) hg_r0 (x := z_28.toInt) (rfl) (by omega) dX11_commentEnd_69 (fun z_29 (hz_29 : True) => ?_)
                refine lv_bipush (v := 41) hx hb dX11_commentEnd_70 (by decide) ?_
                refine lv_icmp_ne (tgt := 90) hx hb dX11_commentEnd_72 (by decide) (fun c_30 => ?_) (fun c_30 => ?_)
                · skip
                  have c_30' : z_29.toInt ≠ 41 := jb_ne (rfl) ((by decide)) c_30
                  obtain ⟨z_31, ez_31⟩ : ∃ y : Int32, y = v4_5 + 1 := ⟨_, rfl⟩
                  refine lv_iinc (v := z_31) (lv' := [(4, .int z_31), (0, .ref r0), (1, .int a1), (2, .int a2), (3, .int v3_5)]) hx hb dX11_commentEnd_90 hl (k := 4) rfl (by rw [ez_31]; rfl) (by decide) rfl (fun ls hl => ?_)
                  have hz_31 : z_31.toInt = v4_5.toInt + 1 := by rw [ez_31]; exact jb_iadd2 (rfl) (by decide) (by omega)
                  refine lv_goto (tgt := 18) hx hb dX11_commentEnd_93 (by decide) ?_
                  exact L18 v3_5 z_31 _ _ hh_5 (by first | omega | (refine ⟨?_, ?_, ?_, ?_⟩ <;> (first | omega | rfl | assumption | decide | exact Or.inl rfl | exact Or.inr rfl | (simp only; omega)))) (by omega) _ (lv_sub hl [1, 2, 3, 4, 0] rfl)
                · skip
                  have c_30' : z_29.toInt = 41 := jb_ne_n (rfl) ((by decide)) c_30
                  obtain ⟨z_32, ez_32⟩ : ∃ y : Int32, y = v3_5 + (-1) := ⟨_, rfl⟩
                  refine lv_iinc (v := z_32) (lv' := [(3, .int z_32), (0, .ref r0), (1, .int a1), (2, .int a2), (4, .int v4_5)]) hx hb dX11_commentEnd_75 hl (k := 3) rfl (by rw [ez_32]; rfl) (by decide) rfl (fun ls hl => ?_)
                  have hz_32 : z_32.toInt = v3_5.toInt + (-1) := by rw [ez_32]; exact jb_iadd2 (rfl) (by decide) (by omega)
                  obtain ⟨z_33, ez_33⟩ : ∃ y : Int32, y = v4_5 + 1 := ⟨_, rfl⟩
                  refine lv_iinc (v := z_33) (lv' := [(4, .int z_33), (3, .int z_32), (0, .ref r0), (1, .int a1), (2, .int a2)]) hx hb dX11_commentEnd_78 hl (k := 4) rfl (by rw [ez_33]; rfl) (by decide) rfl (fun ls hl => ?_)
                  have hz_33 : z_33.toInt = v4_5.toInt + 1 := by rw [ez_33]; exact jb_iadd2 (rfl) (by decide) (by omega)
                  refine lv_iload_n hx hb dX11_commentEnd_81 rfl (lv_at hl 1 rfl) ?_
                  refine lv_if_ne (tgt := 90) hx hb dX11_commentEnd_82 (by decide) (fun c_34 => ?_) (fun c_34 => ?_)
                  · skip
                    have c_34' : z_32.toInt ≠ 0 := jb_ne (rfl) ((by decide)) c_34
                    obtain ⟨z_35, ez_35⟩ : ∃ y : Int32, y = z_33 + 1 := ⟨_, rfl⟩
                    refine lv_iinc (v := z_35) (lv' := [(4, .int z_35), (3, .int z_32), (0, .ref r0), (1, .int a1), (2, .int a2)]) hx hb dX11_commentEnd_90 hl (k := 0) rfl (by rw [ez_35]; rfl) (by decide) rfl (fun ls hl => ?_)
                    have hz_35 : z_35.toInt = z_33.toInt + 1 := by rw [ez_35]; exact jb_iadd2 (rfl) (by decide) (by omega)
                    refine lv_goto (tgt := 18) hx hb dX11_commentEnd_93 (by decide) ?_
                    exact L18 z_32 z_35 _ _ hh_5 (by first | omega | (refine ⟨?_, ?_, ?_, ?_⟩ <;> (first | omega | rfl | assumption | decide | exact Or.inl rfl | exact Or.inr rfl | (simp only; omega)))) (by omega) _ (lv_sub hl [2, 3, 4, 1, 0] rfl)
                  · skip
                    have c_34' : z_32.toInt = 0 := jb_ne_n (rfl) ((by decide)) c_34
                    refine lv_iload hx hb dX11_commentEnd_85 (lv_at hl 0 rfl) ?_
                    refine lv_iconst (v := 1) hx hb dX11_commentEnd_87 (by decide) ?_
                    refine lv_iadd hx hb dX11_commentEnd_88 ?_
                    refine lv_topi (fun z_36 ez_36 => ?_)
                    have hz_36 : z_36.toInt = z_33.toInt + 1 := by rw [ez_36]; exact jb_iadd2 (rfl) ((by decide)) (by omega)
                    rw [hQ]
                    exact W.iret (v := z_36) hx hb hr (fun t ht hW => ⟨⟨z_36, (), rfl, by first | omega | rfl | assumption | decide | exact Or.inl rfl | exact Or.inr rfl | (simp only; omega), hh_5.rt (M1 := []) [] rfl ht⟩, by rw [ht]; try exact hh_5.1.1, fun q h9 hq => by rw [ht]; try exact hh_5.1.2.1 q h9 hq⟩) hh_5.1.2.2 dX11_commentEnd_89
            · skip
              have c_24' : z_23.toInt = 42 := jb_ne_n (rfl) ((by decide)) c_24
              obtain ⟨z_37, ez_37⟩ : ∃ y : Int32, y = v3_5 + 1 := ⟨_, rfl⟩
              refine lv_iinc (v := z_37) (lv' := [(3, .int z_37), (0, .ref r0), (1, .int a1), (2, .int a2), (4, .int v4_5)]) hx hb dX11_commentEnd_46 hl (k := 3) rfl (by rw [ez_37]; rfl) (by decide) rfl (fun ls hl => ?_)
              have hz_37 : z_37.toInt = v3_5.toInt + 1 := by rw [ez_37]; exact jb_iadd2 (rfl) (by decide) (by omega)
              obtain ⟨z_38, ez_38⟩ : ∃ y : Int32, y = v4_5 + 1 := ⟨_, rfl⟩
              refine lv_iinc (v := z_38) (lv' := [(4, .int z_38), (3, .int z_37), (0, .ref r0), (1, .int a1), (2, .int a2)]) hx hb dX11_commentEnd_49 hl (k := 4) rfl (by rw [ez_38]; rfl) (by decide) rfl (fun ls hl => ?_)
              have hz_38 : z_38.toInt = v4_5.toInt + 1 := by rw [ez_38]; exact jb_iadd2 (rfl) (by decide) (by omega)
              refine lv_goto (tgt := 90) hx hb dX11_commentEnd_52 (by decide) ?_
              obtain ⟨z_39, ez_39⟩ : ∃ y : Int32, y = z_38 + 1 := ⟨_, rfl⟩
              refine lv_iinc (v := z_39) (lv' := [(4, .int z_39), (3, .int z_37), (0, .ref r0), (1, .int a1), (2, .int a2)]) hx hb dX11_commentEnd_90 hl (k := 0) rfl (by rw [ez_39]; rfl) (by decide) rfl (fun ls hl => ?_)
              have hz_39 : z_39.toInt = z_38.toInt + 1 := by rw [ez_39]; exact jb_iadd2 (rfl) (by decide) (by omega)
              refine lv_goto (tgt := 18) hx hb dX11_commentEnd_93 (by decide) ?_
              exact L18 z_37 z_39 _ _ hh_5 (by first | omega | (refine ⟨?_, ?_, ?_, ?_⟩ <;> (first | omega | rfl | assumption | decide | exact Or.inl rfl | exact Or.inr rfl | (simp only; omega)))) (by omega) _ (lv_sub hl [2, 3, 4, 1, 0] rfl)
    exact L18 (((a2.toInt - (z_4 : Int32).toInt).toNat : Int) : Int).toNat.succ 1 z_4 _ _ hh_1 (by first | omega | (refine ⟨?_, ?_, ?_, ?_⟩ <;> (first | omega | rfl | assumption | decide | exact Or.inl rfl | exact Or.inr rfl | (simp only; omega)))) (by omega) _ (lv_sub hl [2, 3, 4, 1, 0] rfl)
  · skip
    have c_3' : r_2.toInt = 0 := jb_ne_n (rfl) ((by decide)) c_3
    first | (have hr_2pq := hr_2p.resolve_left (by omega); clear hr_2p) | (have hr_2pq := hr_2p.resolve_right (by omega); clear hr_2p) | try clear hr_2p
    refine lv_iconst (v := (-1)) hx hb dX11_commentEnd_9 (by decide) ?_
    rw [hQ]
    exact W.iret (v := (-1)) hx hb hr (fun t ht hW => ⟨⟨(-1), (), rfl, by first | omega | rfl | assumption | decide | exact Or.inl rfl | exact Or.inr rfl | (simp only; omega), hh_1.rt (M1 := []) [] rfl ht⟩, by rw [ht]; try exact hh_1.1.1, fun q h9 hq => by rw [ht]; try exact hh_1.1.2.1 q h9 hq⟩) hh_1.1.2.2 dX11_commentEnd_10
end
section
def F6 (n : Nat) (G : jT) : List (Value → Prop) := [jRf G 140 1502, jRf G 141 1502, jRf G 142 1502, jRf G 143 1502, jRf G 144 1502, jRf G 145 1502, jRf G 146 3000, jI 0 1502, jI 0 3000, jRk G 100 3000, jI 0 3000, jI 0 20000]
theorem dX4_kindOf_0 : decode cX4_kindOf 0 = .ok (.iload_n 1, 1) := by decide +kernel
theorem dX4_kindOf_1 : decode cX4_kindOf 1 = .ok (.ifCond .lt 11, 3) := by decide +kernel
theorem dX4_kindOf_4 : decode cX4_kindOf 4 = .ok (.iload_n 1, 1) := by decide +kernel
theorem dX4_kindOf_5 : decode cX4_kindOf 5 = .ok (.aload_n 0, 1) := by decide +kernel
theorem dX4_kindOf_6 : decode cX4_kindOf 6 = .ok (.getfield 50, 3) := by decide +kernel
theorem dX4_kindOf_9 : decode cX4_kindOf 9 = .ok (.if_icmp .lt 7, 3) := by decide +kernel
theorem dX4_kindOf_12 : decode cX4_kindOf 12 = .ok (.iconst 0, 1) := by decide +kernel
theorem dX4_kindOf_13 : decode cX4_kindOf 13 = .ok (.goto 9, 3) := by decide +kernel
theorem dX4_kindOf_16 : decode cX4_kindOf 16 = .ok (.aload_n 0, 1) := by decide +kernel
theorem dX4_kindOf_17 : decode cX4_kindOf 17 = .ok (.getfield 11, 3) := by decide +kernel
theorem dX4_kindOf_20 : decode cX4_kindOf 20 = .ok (.iload_n 1, 1) := by decide +kernel
theorem dX4_kindOf_21 : decode cX4_kindOf 21 = .ok (.iaload, 1) := by decide +kernel
theorem dX4_kindOf_22 : decode cX4_kindOf 22 = .ok (.ireturn, 1) := by decide +kernel
theorem dX4_sizeOf_0 : decode cX4_sizeOf 0 = .ok (.iload_n 1, 1) := by decide +kernel
theorem dX4_sizeOf_1 : decode cX4_sizeOf 1 = .ok (.ifCond .lt 11, 3) := by decide +kernel
theorem dX4_sizeOf_4 : decode cX4_sizeOf 4 = .ok (.iload_n 1, 1) := by decide +kernel
theorem dX4_sizeOf_5 : decode cX4_sizeOf 5 = .ok (.aload_n 0, 1) := by decide +kernel
theorem dX4_sizeOf_6 : decode cX4_sizeOf 6 = .ok (.getfield 50, 3) := by decide +kernel
theorem dX4_sizeOf_9 : decode cX4_sizeOf 9 = .ok (.if_icmp .lt 7, 3) := by decide +kernel
theorem dX4_sizeOf_12 : decode cX4_sizeOf 12 = .ok (.iconst 0, 1) := by decide +kernel
theorem dX4_sizeOf_13 : decode cX4_sizeOf 13 = .ok (.goto 9, 3) := by decide +kernel
theorem dX4_sizeOf_16 : decode cX4_sizeOf 16 = .ok (.aload_n 0, 1) := by decide +kernel
theorem dX4_sizeOf_17 : decode cX4_sizeOf 17 = .ok (.getfield 18, 3) := by decide +kernel
theorem dX4_sizeOf_20 : decode cX4_sizeOf 20 = .ok (.iload_n 1, 1) := by decide +kernel
theorem dX4_sizeOf_21 : decode cX4_sizeOf 21 = .ok (.iaload, 1) := by decide +kernel
theorem dX4_sizeOf_22 : decode cX4_sizeOf 22 = .ok (.ireturn, 1) := by decide +kernel
theorem dX4_valueOf_0 : decode cX4_valueOf 0 = .ok (.iload_n 1, 1) := by decide +kernel
theorem dX4_valueOf_1 : decode cX4_valueOf 1 = .ok (.ifCond .lt 11, 3) := by decide +kernel
theorem dX4_valueOf_4 : decode cX4_valueOf 4 = .ok (.iload_n 1, 1) := by decide +kernel
theorem dX4_valueOf_5 : decode cX4_valueOf 5 = .ok (.aload_n 0, 1) := by decide +kernel
theorem dX4_valueOf_6 : decode cX4_valueOf 6 = .ok (.getfield 50, 3) := by decide +kernel
theorem dX4_valueOf_9 : decode cX4_valueOf 9 = .ok (.if_icmp .lt 7, 3) := by decide +kernel
theorem dX4_valueOf_12 : decode cX4_valueOf 12 = .ok (.iconst 0, 1) := by decide +kernel
theorem dX4_valueOf_13 : decode cX4_valueOf 13 = .ok (.goto 9, 3) := by decide +kernel
theorem dX4_valueOf_16 : decode cX4_valueOf 16 = .ok (.aload_n 0, 1) := by decide +kernel
theorem dX4_valueOf_17 : decode cX4_valueOf 17 = .ok (.getfield 15, 3) := by decide +kernel
theorem dX4_valueOf_20 : decode cX4_valueOf 20 = .ok (.iload_n 1, 1) := by decide +kernel
theorem dX4_valueOf_21 : decode cX4_valueOf 21 = .ok (.iaload, 1) := by decide +kernel
theorem dX4_valueOf_22 : decode cX4_valueOf 22 = .ok (.ireturn, 1) := by decide +kernel
theorem dX4_member_0 : decode cX4_member 0 = .ok (.aload_n 0, 1) := by decide +kernel
theorem dX4_member_1 : decode cX4_member 1 = .ok (.iload_n 1, 1) := by decide +kernel
theorem dX4_member_2 : decode cX4_member 2 = .ok (.invokevirtual 63, 3) := by decide +kernel
theorem dX4_member_5 : decode cX4_member 5 = .ok (.iconst 1, 1) := by decide +kernel
theorem dX4_member_6 : decode cX4_member 6 = .ok (.if_icmp .eq 5, 3) := by decide +kernel
theorem dX4_member_9 : decode cX4_member 9 = .ok (.iconst (-1), 1) := by decide +kernel
theorem dX4_member_10 : decode cX4_member 10 = .ok (.ireturn, 1) := by decide +kernel
theorem dX4_member_11 : decode cX4_member 11 = .ok (.iconst (-1), 1) := by decide +kernel
theorem dX4_member_12 : decode cX4_member 12 = .ok (.istore_n 3, 1) := by decide +kernel
theorem dX4_member_13 : decode cX4_member 13 = .ok (.aload_n 0, 1) := by decide +kernel
theorem dX4_member_14 : decode cX4_member 14 = .ok (.getfield 15, 3) := by decide +kernel
theorem dX4_member_17 : decode cX4_member 17 = .ok (.iload_n 1, 1) := by decide +kernel
theorem dX4_member_18 : decode cX4_member 18 = .ok (.iaload, 1) := by decide +kernel
theorem dX4_member_19 : decode cX4_member 19 = .ok (.istore 4, 2) := by decide +kernel
theorem dX4_member_21 : decode cX4_member 21 = .ok (.iconst 0, 1) := by decide +kernel
theorem dX4_member_22 : decode cX4_member 22 = .ok (.istore 5, 2) := by decide +kernel
theorem dX4_member_24 : decode cX4_member 24 = .ok (.iload 5, 2) := by decide +kernel
theorem dX4_member_26 : decode cX4_member 26 = .ok (.aload_n 0, 1) := by decide +kernel
theorem dX4_member_27 : decode cX4_member 27 = .ok (.getfield 18, 3) := by decide +kernel
theorem dX4_member_30 : decode cX4_member 30 = .ok (.iload_n 1, 1) := by decide +kernel
theorem dX4_member_31 : decode cX4_member 31 = .ok (.iaload, 1) := by decide +kernel
theorem dX4_member_32 : decode cX4_member 32 = .ok (.if_icmp .ge 57, 3) := by decide +kernel
theorem dX4_member_35 : decode cX4_member 35 = .ok (.iload 4, 2) := by decide +kernel
theorem dX4_member_37 : decode cX4_member 37 = .ok (.ifCond .lt 52, 3) := by decide +kernel
theorem dX4_member_40 : decode cX4_member 40 = .ok (.iload 4, 2) := by decide +kernel
theorem dX4_member_42 : decode cX4_member 42 = .ok (.aload_n 0, 1) := by decide +kernel
theorem dX4_member_43 : decode cX4_member 43 = .ok (.getfield 50, 3) := by decide +kernel
theorem dX4_member_46 : decode cX4_member 46 = .ok (.if_icmp .ge 43, 3) := by decide +kernel
theorem dX4_member_49 : decode cX4_member 49 = .ok (.aload_n 0, 1) := by decide +kernel
theorem dX4_member_50 : decode cX4_member 50 = .ok (.aload_n 0, 1) := by decide +kernel
theorem dX4_member_51 : decode cX4_member 51 = .ok (.getfield 24, 3) := by decide +kernel
theorem dX4_member_54 : decode cX4_member 54 = .ok (.iload 4, 2) := by decide +kernel
theorem dX4_member_56 : decode cX4_member 56 = .ok (.iaload, 1) := by decide +kernel
theorem dX4_member_57 : decode cX4_member 57 = .ok (.aload_n 0, 1) := by decide +kernel
theorem dX4_member_58 : decode cX4_member 58 = .ok (.getfield 27, 3) := by decide +kernel
theorem dX4_member_61 : decode cX4_member 61 = .ok (.iload 4, 2) := by decide +kernel
theorem dX4_member_63 : decode cX4_member 63 = .ok (.iaload, 1) := by decide +kernel
theorem dX4_member_64 : decode cX4_member 64 = .ok (.aload_n 2, 1) := by decide +kernel
theorem dX4_member_65 : decode cX4_member 65 = .ok (.invokevirtual 66, 3) := by decide +kernel
theorem dX4_member_68 : decode cX4_member 68 = .ok (.ifCond .eq 6, 3) := by decide +kernel
theorem dX4_member_71 : decode cX4_member 71 = .ok (.iload 4, 2) := by decide +kernel
theorem dX4_member_73 : decode cX4_member 73 = .ok (.istore_n 3, 1) := by decide +kernel
theorem dX4_member_74 : decode cX4_member 74 = .ok (.aload_n 0, 1) := by decide +kernel
theorem dX4_member_75 : decode cX4_member 75 = .ok (.getfield 21, 3) := by decide +kernel
theorem dX4_member_78 : decode cX4_member 78 = .ok (.iload 4, 2) := by decide +kernel
theorem dX4_member_80 : decode cX4_member 80 = .ok (.iaload, 1) := by decide +kernel
theorem dX4_member_81 : decode cX4_member 81 = .ok (.istore 4, 2) := by decide +kernel
theorem dX4_member_83 : decode cX4_member 83 = .ok (.iinc 5 1, 3) := by decide +kernel
theorem dX4_member_86 : decode cX4_member 86 = .ok (.goto (-62), 3) := by decide +kernel
theorem dX4_member_89 : decode cX4_member 89 = .ok (.iload_n 3, 1) := by decide +kernel
theorem dX4_member_90 : decode cX4_member 90 = .ok (.ireturn, 1) := by decide +kernel
theorem dX4_areUnits_0 : decode cX4_areUnits 0 = .ok (.iload_n 2, 1) := by decide +kernel
theorem dX4_areUnits_1 : decode cX4_areUnits 1 = .ok (.aload_n 3, 1) := by decide +kernel
theorem dX4_areUnits_2 : decode cX4_areUnits 2 = .ok (.invokevirtual 70, 3) := by decide +kernel
theorem dX4_areUnits_5 : decode cX4_areUnits 5 = .ok (.if_icmp .ne 18, 3) := by decide +kernel
theorem dX4_areUnits_8 : decode cX4_areUnits 8 = .ok (.iload_n 1, 1) := by decide +kernel
theorem dX4_areUnits_9 : decode cX4_areUnits 9 = .ok (.ifCond .lt 14, 3) := by decide +kernel
theorem dX4_areUnits_12 : decode cX4_areUnits 12 = .ok (.iload_n 1, 1) := by decide +kernel
theorem dX4_areUnits_13 : decode cX4_areUnits 13 = .ok (.iload_n 2, 1) := by decide +kernel
theorem dX4_areUnits_14 : decode cX4_areUnits 14 = .ok (.iadd, 1) := by decide +kernel
theorem dX4_areUnits_15 : decode cX4_areUnits 15 = .ok (.aload_n 0, 1) := by decide +kernel
theorem dX4_areUnits_16 : decode cX4_areUnits 16 = .ok (.getfield 30, 3) := by decide +kernel
theorem dX4_areUnits_19 : decode cX4_areUnits 19 = .ok (.arraylength, 1) := by decide +kernel
theorem dX4_areUnits_20 : decode cX4_areUnits 20 = .ok (.if_icmp .le 5, 3) := by decide +kernel
theorem dX4_areUnits_23 : decode cX4_areUnits 23 = .ok (.iconst 0, 1) := by decide +kernel
theorem dX4_areUnits_24 : decode cX4_areUnits 24 = .ok (.ireturn, 1) := by decide +kernel
theorem dX4_areUnits_25 : decode cX4_areUnits 25 = .ok (.iconst 0, 1) := by decide +kernel
theorem dX4_areUnits_26 : decode cX4_areUnits 26 = .ok (.istore 4, 2) := by decide +kernel
theorem dX4_areUnits_28 : decode cX4_areUnits 28 = .ok (.iload 4, 2) := by decide +kernel
theorem dX4_areUnits_30 : decode cX4_areUnits 30 = .ok (.iload_n 2, 1) := by decide +kernel
theorem dX4_areUnits_31 : decode cX4_areUnits 31 = .ok (.if_icmp .ge 29, 3) := by decide +kernel
theorem dX4_areUnits_34 : decode cX4_areUnits 34 = .ok (.aload_n 0, 1) := by decide +kernel
theorem dX4_areUnits_35 : decode cX4_areUnits 35 = .ok (.getfield 30, 3) := by decide +kernel
theorem dX4_areUnits_38 : decode cX4_areUnits 38 = .ok (.iload_n 1, 1) := by decide +kernel
theorem dX4_areUnits_39 : decode cX4_areUnits 39 = .ok (.iload 4, 2) := by decide +kernel
theorem dX4_areUnits_41 : decode cX4_areUnits 41 = .ok (.iadd, 1) := by decide +kernel
theorem dX4_areUnits_42 : decode cX4_areUnits 42 = .ok (.iaload, 1) := by decide +kernel
theorem dX4_areUnits_43 : decode cX4_areUnits 43 = .ok (.aload_n 3, 1) := by decide +kernel
theorem dX4_areUnits_44 : decode cX4_areUnits 44 = .ok (.iload 4, 2) := by decide +kernel
theorem dX4_areUnits_46 : decode cX4_areUnits 46 = .ok (.invokevirtual 76, 3) := by decide +kernel
theorem dX4_areUnits_49 : decode cX4_areUnits 49 = .ok (.if_icmp .eq 5, 3) := by decide +kernel
theorem dX4_areUnits_52 : decode cX4_areUnits 52 = .ok (.iconst 0, 1) := by decide +kernel
theorem dX4_areUnits_53 : decode cX4_areUnits 53 = .ok (.ireturn, 1) := by decide +kernel
theorem dX4_areUnits_54 : decode cX4_areUnits 54 = .ok (.iinc 4 1, 3) := by decide +kernel
theorem dX4_areUnits_57 : decode cX4_areUnits 57 = .ok (.goto (-29), 3) := by decide +kernel
theorem dX4_areUnits_60 : decode cX4_areUnits 60 = .ok (.iconst 1, 1) := by decide +kernel
theorem dX4_areUnits_61 : decode cX4_areUnits 61 = .ok (.ireturn, 1) := by decide +kernel
theorem dX4_isUnits_0 : decode cX4_isUnits 0 = .ok (.aload_n 0, 1) := by decide +kernel
theorem dX4_isUnits_1 : decode cX4_isUnits 1 = .ok (.iload_n 1, 1) := by decide +kernel
theorem dX4_isUnits_2 : decode cX4_isUnits 2 = .ok (.invokevirtual 63, 3) := by decide +kernel
theorem dX4_isUnits_5 : decode cX4_isUnits 5 = .ok (.iconst 3, 1) := by decide +kernel
theorem dX4_isUnits_6 : decode cX4_isUnits 6 = .ok (.if_icmp .ne 14, 3) := by decide +kernel
theorem dX4_isUnits_9 : decode cX4_isUnits 9 = .ok (.aload_n 0, 1) := by decide +kernel
theorem dX4_isUnits_10 : decode cX4_isUnits 10 = .ok (.getfield 18, 3) := by decide +kernel
theorem dX4_isUnits_13 : decode cX4_isUnits 13 = .ok (.iload_n 1, 1) := by decide +kernel
theorem dX4_isUnits_14 : decode cX4_isUnits 14 = .ok (.iaload, 1) := by decide +kernel
theorem dX4_isUnits_15 : decode cX4_isUnits 15 = .ok (.aload_n 2, 1) := by decide +kernel
theorem dX4_isUnits_16 : decode cX4_isUnits 16 = .ok (.arraylength, 1) := by decide +kernel
theorem dX4_isUnits_17 : decode cX4_isUnits 17 = .ok (.if_icmp .eq 5, 3) := by decide +kernel
theorem dX4_isUnits_20 : decode cX4_isUnits 20 = .ok (.iconst 0, 1) := by decide +kernel
theorem dX4_isUnits_21 : decode cX4_isUnits 21 = .ok (.ireturn, 1) := by decide +kernel
theorem dX4_isUnits_22 : decode cX4_isUnits 22 = .ok (.iconst 0, 1) := by decide +kernel
theorem dX4_isUnits_23 : decode cX4_isUnits 23 = .ok (.istore_n 3, 1) := by decide +kernel
theorem dX4_isUnits_24 : decode cX4_isUnits 24 = .ok (.iload_n 3, 1) := by decide +kernel
theorem dX4_isUnits_25 : decode cX4_isUnits 25 = .ok (.aload_n 2, 1) := by decide +kernel
theorem dX4_isUnits_26 : decode cX4_isUnits 26 = .ok (.arraylength, 1) := by decide +kernel
theorem dX4_isUnits_27 : decode cX4_isUnits 27 = .ok (.if_icmp .ge 23, 3) := by decide +kernel
theorem dX4_isUnits_30 : decode cX4_isUnits 30 = .ok (.aload_n 0, 1) := by decide +kernel
theorem dX4_isUnits_31 : decode cX4_isUnits 31 = .ok (.iload_n 1, 1) := by decide +kernel
theorem dX4_isUnits_32 : decode cX4_isUnits 32 = .ok (.iload_n 3, 1) := by decide +kernel
theorem dX4_isUnits_33 : decode cX4_isUnits 33 = .ok (.invokevirtual 80, 3) := by decide +kernel
theorem dX4_isUnits_36 : decode cX4_isUnits 36 = .ok (.aload_n 2, 1) := by decide +kernel
theorem dX4_isUnits_37 : decode cX4_isUnits 37 = .ok (.iload_n 3, 1) := by decide +kernel
theorem dX4_isUnits_38 : decode cX4_isUnits 38 = .ok (.iaload, 1) := by decide +kernel
theorem dX4_isUnits_39 : decode cX4_isUnits 39 = .ok (.if_icmp .eq 5, 3) := by decide +kernel
theorem dX4_isUnits_42 : decode cX4_isUnits 42 = .ok (.iconst 0, 1) := by decide +kernel
theorem dX4_isUnits_43 : decode cX4_isUnits 43 = .ok (.ireturn, 1) := by decide +kernel
theorem dX4_isUnits_44 : decode cX4_isUnits 44 = .ok (.iinc 3 1, 3) := by decide +kernel
theorem dX4_isUnits_47 : decode cX4_isUnits 47 = .ok (.goto (-23), 3) := by decide +kernel
theorem dX4_isUnits_50 : decode cX4_isUnits 50 = .ok (.iconst 1, 1) := by decide +kernel
theorem dX4_isUnits_51 : decode cX4_isUnits 51 = .ok (.ireturn, 1) := by decide +kernel
theorem dX4_unitAt_0 : decode cX4_unitAt 0 = .ok (.aload_n 0, 1) := by decide +kernel
theorem dX4_unitAt_1 : decode cX4_unitAt 1 = .ok (.iload_n 1, 1) := by decide +kernel
theorem dX4_unitAt_2 : decode cX4_unitAt 2 = .ok (.invokevirtual 63, 3) := by decide +kernel
theorem dX4_unitAt_5 : decode cX4_unitAt 5 = .ok (.iconst 3, 1) := by decide +kernel
theorem dX4_unitAt_6 : decode cX4_unitAt 6 = .ok (.if_icmp .ne 14, 3) := by decide +kernel
theorem dX4_unitAt_9 : decode cX4_unitAt 9 = .ok (.aload_n 0, 1) := by decide +kernel
theorem dX4_unitAt_10 : decode cX4_unitAt 10 = .ok (.getfield 15, 3) := by decide +kernel
theorem dX4_unitAt_13 : decode cX4_unitAt 13 = .ok (.iload_n 1, 1) := by decide +kernel
theorem dX4_unitAt_14 : decode cX4_unitAt 14 = .ok (.iaload, 1) := by decide +kernel
theorem dX4_unitAt_15 : decode cX4_unitAt 15 = .ok (.iload_n 2, 1) := by decide +kernel
theorem dX4_unitAt_16 : decode cX4_unitAt 16 = .ok (.iadd, 1) := by decide +kernel
theorem dX4_unitAt_17 : decode cX4_unitAt 17 = .ok (.goto 4, 3) := by decide +kernel
theorem dX4_unitAt_20 : decode cX4_unitAt 20 = .ok (.iconst (-1), 1) := by decide +kernel
theorem dX4_unitAt_21 : decode cX4_unitAt 21 = .ok (.istore_n 3, 1) := by decide +kernel
theorem dX4_unitAt_22 : decode cX4_unitAt 22 = .ok (.iload_n 2, 1) := by decide +kernel
theorem dX4_unitAt_23 : decode cX4_unitAt 23 = .ok (.ifCond .lt 25, 3) := by decide +kernel
theorem dX4_unitAt_26 : decode cX4_unitAt 26 = .ok (.iload_n 2, 1) := by decide +kernel
theorem dX4_unitAt_27 : decode cX4_unitAt 27 = .ok (.aload_n 0, 1) := by decide +kernel
theorem dX4_unitAt_28 : decode cX4_unitAt 28 = .ok (.iload_n 1, 1) := by decide +kernel
theorem dX4_unitAt_29 : decode cX4_unitAt 29 = .ok (.invokevirtual 83, 3) := by decide +kernel
theorem dX4_unitAt_32 : decode cX4_unitAt 32 = .ok (.if_icmp .ge 16, 3) := by decide +kernel
theorem dX4_unitAt_35 : decode cX4_unitAt 35 = .ok (.iload_n 3, 1) := by decide +kernel
theorem dX4_unitAt_36 : decode cX4_unitAt 36 = .ok (.ifCond .lt 12, 3) := by decide +kernel
theorem dX4_unitAt_39 : decode cX4_unitAt 39 = .ok (.iload_n 3, 1) := by decide +kernel
theorem dX4_unitAt_40 : decode cX4_unitAt 40 = .ok (.aload_n 0, 1) := by decide +kernel
theorem dX4_unitAt_41 : decode cX4_unitAt 41 = .ok (.getfield 30, 3) := by decide +kernel
theorem dX4_unitAt_44 : decode cX4_unitAt 44 = .ok (.arraylength, 1) := by decide +kernel
theorem dX4_unitAt_45 : decode cX4_unitAt 45 = .ok (.if_icmp .lt 7, 3) := by decide +kernel
theorem dX4_unitAt_48 : decode cX4_unitAt 48 = .ok (.iconst 0, 1) := by decide +kernel
theorem dX4_unitAt_49 : decode cX4_unitAt 49 = .ok (.goto 9, 3) := by decide +kernel
theorem dX4_unitAt_52 : decode cX4_unitAt 52 = .ok (.aload_n 0, 1) := by decide +kernel
theorem dX4_unitAt_53 : decode cX4_unitAt 53 = .ok (.getfield 30, 3) := by decide +kernel
theorem dX4_unitAt_56 : decode cX4_unitAt 56 = .ok (.iload_n 3, 1) := by decide +kernel
theorem dX4_unitAt_57 : decode cX4_unitAt 57 = .ok (.iaload, 1) := by decide +kernel
theorem dX4_unitAt_58 : decode cX4_unitAt 58 = .ok (.ireturn, 1) := by decide +kernel
def EX4_kindOf : List (Nat × Nat) := []
def EX4_sizeOf : List (Nat × Nat) := []
def EX4_valueOf : List (Nat × Nat) := []
def EX4_unitAt : List (Nat × Nat) := []
set_option maxHeartbeats 4000000 in
set_option maxRecDepth 20000 in
theorem uX4_kindOf (l : Launch) (dC : Nat → ClassId) (dI : Nat → Nat → Nat) (ca : Nat → ClassId) (base : Nat) (B : jF) (hB : jBok B) (hAp : jAp (dC, dI)) (hB6 : ∀ n G a H, B 6 n G a H ↔ jOb (dC, dI) 6 12 (F6 n G) a H) (hB140 : ∀ n G a H, B 140 n G a H ↔ jAr (dC, dI) (ca 1) (fun j z => True) n a H) (G0 : jT) (H0 : Heap) (r0 : Nat) (a1 : Int32) (pv : Int32) : Met l yX4_kindOf (jw yX4_kindOf cX4_kindOf 2 (some .int)) ({ frames := 0, cells := 0, slots := 0, locals := 0 }) (va_Pc [.ref r0, .int a1] (fun U => U.heap = H0 ∧ jX B base G0 [] H0 ∧ jG dC dI ca base U ∧ G0 r0 = some (6, 0) ∧ jP (dC, dI) G0 H0 [(r0, 6, 7, .int pv)] ∧ 0 ≤ pv.toInt ∧ pv.toInt ≤ 1502)) (va_Qi (S := Unit) (fun r u => (r.toInt = 0 ∨ (0 ≤ a1.toInt ∧ a1.toInt < pv.toInt))) (fun u t => jRt (dC, dI) B base G0 EX4_kindOf H0 [] t.heap) (jA base)) 0 0 (jA base) := by
  refine Met.ofW (cc := cX4_kindOf) (maxL := 2) (ret := (some .int)) (by decide) rfl ?_
  intro p e s m args below meth c s₁ Bd hml hv
  obtain ⟨rfl, hH0, hX, hG, hg_r0, hP0, hp0, hp1⟩ := hv
  have hK := hG.1
  have hx := Bd.exec
  have hb := Bd.bytes
  have hr := Bd.returns
  have hts := atoms_spec (ws := (jw yX4_kindOf cX4_kindOf 2 (some .int))) Bd.pre
  have htw : ∀ w ∈ jWl, w.before _ s = true := fun w h => hts w (List.mem_cons_of_mem _ h)
  have hown : s.vm.findClass RX4 = some m.cls := findClass_of_methodNamed Bd.named
  have hlocks := Bd.notSynchronized
  obtain ⟨Q, hQ⟩ : ∃ Q, Q = MQ below (va_Qi (S := Unit) (fun r u => (r.toInt = 0 ∨ (0 ≤ a1.toInt ∧ a1.toInt < pv.toInt))) (fun u t => jRt (dC, dI) B base G0 EX4_kindOf H0 [] t.heap) (jA base)) ([.ref r0, .int a1] : List Value).toArray s 0 0 (jA base) := ⟨_, rfl⟩
  rw [← hQ]
  have hl := lv_entry ([.ref r0, .int a1]) (n := 2) (Nat.le_of_ble_eq_true rfl)
  rw [lg_entry_eq]
  generalize (lg_sl ([.ref r0, .int a1]) ++ List.replicate (2 - (lg_sl ([.ref r0, .int a1])).length) Slot.unset).toArray = ls at hl ⊢
  have hl : lv_has ls 2 [(0, .ref r0), (1, .int a1)] := hl
  generalize hR : (headSpec (jw yX4_kindOf cX4_kindOf 2 (some .int)) ({ frames := 0, cells := 0, slots := 0, locals := 0 })).room = R
  subst hH0
  have hh : jSt (dC, dI) B base G0 G0 EX4_kindOf s.heap 0 0 [(r0, 6, 7, .int pv)] [] [] s.heap [] := jSt.start hX hP0 jMc.nil jIs.nil
  clear hX hP0
  have hk0 : (0 : Int32).toInt = 0 := by decide
  have hk1 : (1 : Int32).toInt = 1 := by decide
  have hly_6_0 := htw (u_lay RX4 TX4 0) (jWc_wsX40 _ (u_in_lay (by decide)))
  have hly_6_7 := htw (u_lay RX4 TX4 7) (jWc_wsX40 _ (u_in_lay (by decide)))
  have hlk_50 := (htw (.fieldLink RX4 50 "ProofServer$Json" "values" "I") (jWr_19 _ (List.mem_of_getElem? (i := 13) rfl)))
  have hlk_11 := (htw (.fieldLink RX4 11 "ProofServer$Json" "kinds" "[I") (jWr_3 _ (List.mem_of_getElem? (i := 21) rfl)))
  have hrg_a1 := jb_rng a1
  refine lv_iload_n hx hb dX4_kindOf_0 rfl (lv_at hl 1 rfl) ?_
  refine lv_if_lt (tgt := 12) hx hb dX4_kindOf_1 (by decide) (fun c_1 => ?_) (fun c_1 => ?_)
  · skip
    have c_1' : a1.toInt < 0 := jb_lt (rfl) ((by decide)) c_1
    refine lv_iconst (v := 0) hx hb dX4_kindOf_12 (by decide) ?_
    refine lv_goto (tgt := 22) hx hb dX4_kindOf_13 (by decide) ?_
    rw [hQ]
    exact W.iret (v := 0) hx hb hr (fun t ht hW => ⟨⟨0, (), rfl, by first | omega | rfl | assumption | decide | exact Or.inl rfl | exact Or.inr rfl | (simp only; omega), hh.rt (M1 := []) [] rfl ht⟩, by rw [ht]; try exact hh.1.1, fun q h9 hq => by rw [ht]; try exact hh.1.2.1 q h9 hq⟩) hh.1.2.2 dX4_kindOf_22
  · skip
    have c_1' : a1.toInt ≥ 0 := jb_lt_n (rfl) ((by decide)) c_1
    refine lv_iload_n hx hb dX4_kindOf_4 rfl (lv_at hl 1 rfl) ?_
    refine lv_aload_n hx hb dX4_kindOf_5 rfl (lv_at hl 0 rfl) ?_
    refine j7_read hx hb hown hK (C := RX4) (T := TX4) (N := 12) rfl hly_6_7 hlk_50 (hh.at 0 rfl) dX4_kindOf_6 ?_
    refine lv_icmp_lt (tgt := 16) hx hb dX4_kindOf_9 (by decide) (fun c_2 => ?_) (fun c_2 => ?_)
    · skip
      have c_2' : a1.toInt < pv.toInt := jb_lt (rfl) (rfl) c_2
      refine lv_aload_n hx hb dX4_kindOf_16 rfl (lv_at hl 0 rfl) ?_
      obtain ⟨v_3, hv_3, hh_4⟩ := hh.pin (C := RX4) (T := TX4) (N := 12) hB6 rfl (by decide) hg_r0 (i := 0) (by decide) rfl
      clear hh
      obtain ⟨kinds_5, rfl, hg_kinds_5⟩ := hv_3
      refine j7_read hx hb hown hK (C := RX4) (T := TX4) (N := 12) rfl hly_6_0 hlk_11 (hh_4.at 0 rfl) dX4_kindOf_17 ?_
      refine lv_iload_n hx hb dX4_kindOf_20 rfl (lv_at hl 1 rfl) ?_
      refine j7_iald hx hb hK hh_4 hB140 1 rfl (by decide) hg_kinds_5 (x := a1.toInt) (rfl) (by omega) dX4_kindOf_21 (fun z_6 (hz_6 : True) => ?_)
      rw [hQ]
      exact W.iret (v := z_6) hx hb hr (fun t ht hW => ⟨⟨z_6, (), rfl, by first | omega | rfl | assumption | decide | exact Or.inl rfl | exact Or.inr rfl | (simp only; omega), hh_4.rt (M1 := []) [] rfl ht⟩, by rw [ht]; try exact hh_4.1.1, fun q h9 hq => by rw [ht]; try exact hh_4.1.2.1 q h9 hq⟩) hh_4.1.2.2 dX4_kindOf_22
    · skip
      have c_2' : a1.toInt ≥ pv.toInt := jb_lt_n (rfl) (rfl) c_2
      refine lv_iconst (v := 0) hx hb dX4_kindOf_12 (by decide) ?_
      refine lv_goto (tgt := 22) hx hb dX4_kindOf_13 (by decide) ?_
      rw [hQ]
      exact W.iret (v := 0) hx hb hr (fun t ht hW => ⟨⟨0, (), rfl, by first | omega | rfl | assumption | decide | exact Or.inl rfl | exact Or.inr rfl | (simp only; omega), hh.rt (M1 := []) [] rfl ht⟩, by rw [ht]; try exact hh.1.1, fun q h9 hq => by rw [ht]; try exact hh.1.2.1 q h9 hq⟩) hh.1.2.2 dX4_kindOf_22
set_option maxHeartbeats 4000000 in
set_option maxRecDepth 20000 in
theorem uX4_sizeOf (l : Launch) (dC : Nat → ClassId) (dI : Nat → Nat → Nat) (ca : Nat → ClassId) (base : Nat) (B : jF) (hB : jBok B) (hAp : jAp (dC, dI)) (hB6 : ∀ n G a H, B 6 n G a H ↔ jOb (dC, dI) 6 12 (F6 n G) a H) (hB142 : ∀ n G a H, B 142 n G a H ↔ jAr (dC, dI) (ca 1) (fun j z => True) n a H) (G0 : jT) (H0 : Heap) (r0 : Nat) (a1 : Int32) : Met l yX4_sizeOf (jw yX4_sizeOf cX4_sizeOf 2 (some .int)) ({ frames := 0, cells := 0, slots := 0, locals := 0 }) (va_Pc [.ref r0, .int a1] (fun U => U.heap = H0 ∧ jX B base G0 [] H0 ∧ jG dC dI ca base U ∧ G0 r0 = some (6, 0) ∧ jP (dC, dI) G0 H0 [] ∧ True)) (va_Qi (S := Unit) (fun r u => (True)) (fun u t => jRt (dC, dI) B base G0 EX4_sizeOf H0 [] t.heap) (jA base)) 0 0 (jA base) := by
  refine Met.ofW (cc := cX4_sizeOf) (maxL := 2) (ret := (some .int)) (by decide) rfl ?_
  intro p e s m args below meth c s₁ Bd hml hv
  obtain ⟨rfl, hH0, hX, hG, hg_r0, hP0, hp0⟩ := hv
  have hK := hG.1
  have hx := Bd.exec
  have hb := Bd.bytes
  have hr := Bd.returns
  have hts := atoms_spec (ws := (jw yX4_sizeOf cX4_sizeOf 2 (some .int))) Bd.pre
  have htw : ∀ w ∈ jWl, w.before _ s = true := fun w h => hts w (List.mem_cons_of_mem _ h)
  have hown : s.vm.findClass RX4 = some m.cls := findClass_of_methodNamed Bd.named
  have hlocks := Bd.notSynchronized
  obtain ⟨Q, hQ⟩ : ∃ Q, Q = MQ below (va_Qi (S := Unit) (fun r u => (True)) (fun u t => jRt (dC, dI) B base G0 EX4_sizeOf H0 [] t.heap) (jA base)) ([.ref r0, .int a1] : List Value).toArray s 0 0 (jA base) := ⟨_, rfl⟩
  rw [← hQ]
  have hl := lv_entry ([.ref r0, .int a1]) (n := 2) (Nat.le_of_ble_eq_true rfl)
  rw [lg_entry_eq]
  generalize (lg_sl ([.ref r0, .int a1]) ++ List.replicate (2 - (lg_sl ([.ref r0, .int a1])).length) Slot.unset).toArray = ls at hl ⊢
  have hl : lv_has ls 2 [(0, .ref r0), (1, .int a1)] := hl
  generalize hR : (headSpec (jw yX4_sizeOf cX4_sizeOf 2 (some .int)) ({ frames := 0, cells := 0, slots := 0, locals := 0 })).room = R
  subst hH0
  have hh : jSt (dC, dI) B base G0 G0 EX4_sizeOf s.heap 0 0 [] [] [] s.heap [] := jSt.start hX hP0 jMc.nil jIs.nil
  clear hX hP0
  have hk0 : (0 : Int32).toInt = 0 := by decide
  have hk1 : (1 : Int32).toInt = 1 := by decide
  have hly_6_2 := htw (u_lay RX4 TX4 2) (jWc_wsX40 _ (u_in_lay (by decide)))
  have hly_6_7 := htw (u_lay RX4 TX4 7) (jWc_wsX40 _ (u_in_lay (by decide)))
  have hlk_50 := (htw (.fieldLink RX4 50 "ProofServer$Json" "values" "I") (jWr_19 _ (List.mem_of_getElem? (i := 13) rfl)))
  have hlk_18 := (htw (.fieldLink RX4 18 "ProofServer$Json" "sizes" "[I") (jWr_3 _ (List.mem_of_getElem? (i := 23) rfl)))
  have hrg_a1 := jb_rng a1
  refine lv_iload_n hx hb dX4_sizeOf_0 rfl (lv_at hl 1 rfl) ?_
  refine lv_if_lt (tgt := 12) hx hb dX4_sizeOf_1 (by decide) (fun c_1 => ?_) (fun c_1 => ?_)
  · skip
    have c_1' : a1.toInt < 0 := jb_lt (rfl) ((by decide)) c_1
    refine lv_iconst (v := 0) hx hb dX4_sizeOf_12 (by decide) ?_
    refine lv_goto (tgt := 22) hx hb dX4_sizeOf_13 (by decide) ?_
    rw [hQ]
    exact W.iret (v := 0) hx hb hr (fun t ht hW => ⟨⟨0, (), rfl, trivial, hh.rt (M1 := []) [] rfl ht⟩, by rw [ht]; try exact hh.1.1, fun q h9 hq => by rw [ht]; try exact hh.1.2.1 q h9 hq⟩) hh.1.2.2 dX4_sizeOf_22
  · skip
    have c_1' : a1.toInt ≥ 0 := jb_lt_n (rfl) ((by decide)) c_1
    refine lv_iload_n hx hb dX4_sizeOf_4 rfl (lv_at hl 1 rfl) ?_
    refine lv_aload_n hx hb dX4_sizeOf_5 rfl (lv_at hl 0 rfl) ?_
    obtain ⟨v_2, hv_2, hh_3⟩ := hh.pin (C := RX4) (T := TX4) (N := 12) hB6 rfl (by decide) hg_r0 (i := 7) (by decide) rfl
    clear hh
    obtain ⟨values_4, rfl, hlovalues_4, hhivalues_4⟩ := hv_2
    refine j7_read hx hb hown hK (C := RX4) (T := TX4) (N := 12) rfl hly_6_7 hlk_50 (hh_3.at 0 rfl) dX4_sizeOf_6 ?_
    refine lv_icmp_lt (tgt := 16) hx hb dX4_sizeOf_9 (by decide) (fun c_5 => ?_) (fun c_5 => ?_)
    · skip
      have c_5' : a1.toInt < values_4.toInt := jb_lt (rfl) (rfl) c_5
      refine lv_aload_n hx hb dX4_sizeOf_16 rfl (lv_at hl 0 rfl) ?_
      obtain ⟨v_6, hv_6, hh_7⟩ := hh_3.pin (C := RX4) (T := TX4) (N := 12) hB6 rfl (by decide) hg_r0 (i := 2) (by decide) rfl
      clear hh_3
      obtain ⟨sizes_8, rfl, hg_sizes_8⟩ := hv_6
      refine j7_read hx hb hown hK (C := RX4) (T := TX4) (N := 12) rfl hly_6_2 hlk_18 (hh_7.at 0 rfl) dX4_sizeOf_17 ?_
      refine lv_iload_n hx hb dX4_sizeOf_20 rfl (lv_at hl 1 rfl) ?_
      refine j7_iald hx hb hK hh_7 hB142 1 rfl (by decide) hg_sizes_8 (x := a1.toInt) (rfl) (by omega) dX4_sizeOf_21 (fun z_9 (hz_9 : True) => ?_)
      rw [hQ]
      exact W.iret (v := z_9) hx hb hr (fun t ht hW => ⟨⟨z_9, (), rfl, trivial, hh_7.rt (M1 := []) [] rfl ht⟩, by rw [ht]; try exact hh_7.1.1, fun q h9 hq => by rw [ht]; try exact hh_7.1.2.1 q h9 hq⟩) hh_7.1.2.2 dX4_sizeOf_22
    · skip
      have c_5' : a1.toInt ≥ values_4.toInt := jb_lt_n (rfl) (rfl) c_5
      refine lv_iconst (v := 0) hx hb dX4_sizeOf_12 (by decide) ?_
      refine lv_goto (tgt := 22) hx hb dX4_sizeOf_13 (by decide) ?_
      rw [hQ]
      exact W.iret (v := 0) hx hb hr (fun t ht hW => ⟨⟨0, (), rfl, trivial, hh_3.rt (M1 := []) [] rfl ht⟩, by rw [ht]; try exact hh_3.1.1, fun q h9 hq => by rw [ht]; try exact hh_3.1.2.1 q h9 hq⟩) hh_3.1.2.2 dX4_sizeOf_22
set_option maxHeartbeats 4000000 in
set_option maxRecDepth 20000 in
theorem uX4_valueOf (l : Launch) (dC : Nat → ClassId) (dI : Nat → Nat → Nat) (ca : Nat → ClassId) (base : Nat) (B : jF) (hB : jBok B) (hAp : jAp (dC, dI)) (hB6 : ∀ n G a H, B 6 n G a H ↔ jOb (dC, dI) 6 12 (F6 n G) a H) (hB141 : ∀ n G a H, B 141 n G a H ↔ jAr (dC, dI) (ca 1) (fun j z => True) n a H) (G0 : jT) (H0 : Heap) (r0 : Nat) (a1 : Int32) : Met l yX4_valueOf (jw yX4_valueOf cX4_valueOf 2 (some .int)) ({ frames := 0, cells := 0, slots := 0, locals := 0 }) (va_Pc [.ref r0, .int a1] (fun U => U.heap = H0 ∧ jX B base G0 [] H0 ∧ jG dC dI ca base U ∧ G0 r0 = some (6, 0) ∧ jP (dC, dI) G0 H0 [] ∧ True)) (va_Qi (S := Unit) (fun r u => (True)) (fun u t => jRt (dC, dI) B base G0 EX4_valueOf H0 [] t.heap) (jA base)) 0 0 (jA base) := by
  refine Met.ofW (cc := cX4_valueOf) (maxL := 2) (ret := (some .int)) (by decide) rfl ?_
  intro p e s m args below meth c s₁ Bd hml hv
  obtain ⟨rfl, hH0, hX, hG, hg_r0, hP0, hp0⟩ := hv
  have hK := hG.1
  have hx := Bd.exec
  have hb := Bd.bytes
  have hr := Bd.returns
  have hts := atoms_spec (ws := (jw yX4_valueOf cX4_valueOf 2 (some .int))) Bd.pre
  have htw : ∀ w ∈ jWl, w.before _ s = true := fun w h => hts w (List.mem_cons_of_mem _ h)
  have hown : s.vm.findClass RX4 = some m.cls := findClass_of_methodNamed Bd.named
  have hlocks := Bd.notSynchronized
  obtain ⟨Q, hQ⟩ : ∃ Q, Q = MQ below (va_Qi (S := Unit) (fun r u => (True)) (fun u t => jRt (dC, dI) B base G0 EX4_valueOf H0 [] t.heap) (jA base)) ([.ref r0, .int a1] : List Value).toArray s 0 0 (jA base) := ⟨_, rfl⟩
  rw [← hQ]
  have hl := lv_entry ([.ref r0, .int a1]) (n := 2) (Nat.le_of_ble_eq_true rfl)
  rw [lg_entry_eq]
  generalize (lg_sl ([.ref r0, .int a1]) ++ List.replicate (2 - (lg_sl ([.ref r0, .int a1])).length) Slot.unset).toArray = ls at hl ⊢
  have hl : lv_has ls 2 [(0, .ref r0), (1, .int a1)] := hl
  generalize hR : (headSpec (jw yX4_valueOf cX4_valueOf 2 (some .int)) ({ frames := 0, cells := 0, slots := 0, locals := 0 })).room = R
  subst hH0
  have hh : jSt (dC, dI) B base G0 G0 EX4_valueOf s.heap 0 0 [] [] [] s.heap [] := jSt.start hX hP0 jMc.nil jIs.nil
  clear hX hP0
  have hk0 : (0 : Int32).toInt = 0 := by decide
  have hk1 : (1 : Int32).toInt = 1 := by decide
  have hly_6_1 := htw (u_lay RX4 TX4 1) (jWc_wsX40 _ (u_in_lay (by decide)))
  have hly_6_7 := htw (u_lay RX4 TX4 7) (jWc_wsX40 _ (u_in_lay (by decide)))
  have hlk_50 := (htw (.fieldLink RX4 50 "ProofServer$Json" "values" "I") (jWr_19 _ (List.mem_of_getElem? (i := 13) rfl)))
  have hlk_15 := (htw (.fieldLink RX4 15 "ProofServer$Json" "firsts" "[I") (jWr_3 _ (List.mem_of_getElem? (i := 22) rfl)))
  have hrg_a1 := jb_rng a1
  refine lv_iload_n hx hb dX4_valueOf_0 rfl (lv_at hl 1 rfl) ?_
  refine lv_if_lt (tgt := 12) hx hb dX4_valueOf_1 (by decide) (fun c_1 => ?_) (fun c_1 => ?_)
  · skip
    have c_1' : a1.toInt < 0 := jb_lt (rfl) ((by decide)) c_1
    refine lv_iconst (v := 0) hx hb dX4_valueOf_12 (by decide) ?_
    refine lv_goto (tgt := 22) hx hb dX4_valueOf_13 (by decide) ?_
    rw [hQ]
    exact W.iret (v := 0) hx hb hr (fun t ht hW => ⟨⟨0, (), rfl, trivial, hh.rt (M1 := []) [] rfl ht⟩, by rw [ht]; try exact hh.1.1, fun q h9 hq => by rw [ht]; try exact hh.1.2.1 q h9 hq⟩) hh.1.2.2 dX4_valueOf_22
  · skip
    have c_1' : a1.toInt ≥ 0 := jb_lt_n (rfl) ((by decide)) c_1
    refine lv_iload_n hx hb dX4_valueOf_4 rfl (lv_at hl 1 rfl) ?_
    refine lv_aload_n hx hb dX4_valueOf_5 rfl (lv_at hl 0 rfl) ?_
    obtain ⟨v_2, hv_2, hh_3⟩ := hh.pin (C := RX4) (T := TX4) (N := 12) hB6 rfl (by decide) hg_r0 (i := 7) (by decide) rfl
    clear hh
    obtain ⟨values_4, rfl, hlovalues_4, hhivalues_4⟩ := hv_2
    refine j7_read hx hb hown hK (C := RX4) (T := TX4) (N := 12) rfl hly_6_7 hlk_50 (hh_3.at 0 rfl) dX4_valueOf_6 ?_
    refine lv_icmp_lt (tgt := 16) hx hb dX4_valueOf_9 (by decide) (fun c_5 => ?_) (fun c_5 => ?_)
    · skip
      have c_5' : a1.toInt < values_4.toInt := jb_lt (rfl) (rfl) c_5
      refine lv_aload_n hx hb dX4_valueOf_16 rfl (lv_at hl 0 rfl) ?_
      obtain ⟨v_6, hv_6, hh_7⟩ := hh_3.pin (C := RX4) (T := TX4) (N := 12) hB6 rfl (by decide) hg_r0 (i := 1) (by decide) rfl
      clear hh_3
      obtain ⟨firsts_8, rfl, hg_firsts_8⟩ := hv_6
      refine j7_read hx hb hown hK (C := RX4) (T := TX4) (N := 12) rfl hly_6_1 hlk_15 (hh_7.at 0 rfl) dX4_valueOf_17 ?_
      refine lv_iload_n hx hb dX4_valueOf_20 rfl (lv_at hl 1 rfl) ?_
      refine j7_iald hx hb hK hh_7 hB141 1 rfl (by decide) hg_firsts_8 (x := a1.toInt) (rfl) (by omega) dX4_valueOf_21 (fun z_9 (hz_9 : True) => ?_)
      rw [hQ]
      exact W.iret (v := z_9) hx hb hr (fun t ht hW => ⟨⟨z_9, (), rfl, trivial, hh_7.rt (M1 := []) [] rfl ht⟩, by rw [ht]; try exact hh_7.1.1, fun q h9 hq => by rw [ht]; try exact hh_7.1.2.1 q h9 hq⟩) hh_7.1.2.2 dX4_valueOf_22
    · skip
      have c_5' : a1.toInt ≥ values_4.toInt := jb_lt_n (rfl) (rfl) c_5
      refine lv_iconst (v := 0) hx hb dX4_valueOf_12 (by decide) ?_
      refine lv_goto (tgt := 22) hx hb dX4_valueOf_13 (by decide) ?_
      rw [hQ]
      exact W.iret (v := 0) hx hb hr (fun t ht hW => ⟨⟨0, (), rfl, trivial, hh_3.rt (M1 := []) [] rfl ht⟩, by rw [ht]; try exact hh_3.1.1, fun q h9 hq => by rw [ht]; try exact hh_3.1.2.1 q h9 hq⟩) hh_3.1.2.2 dX4_valueOf_22
set_option maxHeartbeats 4000000 in
set_option maxRecDepth 20000 in
theorem uX4_unitAt (l : Launch) (dC : Nat → ClassId) (dI : Nat → Nat → Nat) (ca : Nat → ClassId) (base : Nat) (B : jF) (hB : jBok B) (hAp : jAp (dC, dI)) (hB6 : ∀ n G a H, B 6 n G a H ↔ jOb (dC, dI) 6 12 (F6 n G) a H) (hB140 : ∀ n G a H, B 140 n G a H ↔ jAr (dC, dI) (ca 1) (fun j z => True) n a H) (hB141 : ∀ n G a H, B 141 n G a H ↔ jAr (dC, dI) (ca 1) (fun j z => True) n a H) (hB142 : ∀ n G a H, B 142 n G a H ↔ jAr (dC, dI) (ca 1) (fun j z => True) n a H) (hB146 : ∀ n G a H, B 146 n G a H ↔ jAr (dC, dI) (ca 1) (fun j z => True) n a H) (G0 : jT) (H0 : Heap) (r0 : Nat) (a1 : Int32) (a2 : Int32) : Met l yX4_unitAt (jw yX4_unitAt cX4_unitAt 4 (some .int)) ({ frames := 1, cells := 0, slots := 0, locals := 21 }) (va_Pc [.ref r0, .int a1, .int a2] (fun U => U.heap = H0 ∧ jX B base G0 [] H0 ∧ jG dC dI ca base U ∧ G0 r0 = some (6, 0) ∧ jP (dC, dI) G0 H0 [] ∧ True)) (va_Qi (S := Unit) (fun r u => (True)) (fun u t => jRt (dC, dI) B base G0 EX4_unitAt H0 [] t.heap) (jA base)) 0 0 (jA base) := by
  refine Met.ofW (cc := cX4_unitAt) (maxL := 4) (ret := (some .int)) (by decide) rfl ?_
  intro p e s m args below meth c s₁ Bd hml hv
  obtain ⟨rfl, hH0, hX, hG, hg_r0, hP0, hp0⟩ := hv
  have hK := hG.1
  have hx := Bd.exec
  have hb := Bd.bytes
  have hr := Bd.returns
  have hts := atoms_spec (ws := (jw yX4_unitAt cX4_unitAt 4 (some .int))) Bd.pre
  have htw : ∀ w ∈ jWl, w.before _ s = true := fun w h => hts w (List.mem_cons_of_mem _ h)
  have hown : s.vm.findClass RX4 = some m.cls := findClass_of_methodNamed Bd.named
  have hlocks := Bd.notSynchronized
  obtain ⟨Q, hQ⟩ : ∃ Q, Q = MQ below (va_Qi (S := Unit) (fun r u => (True)) (fun u t => jRt (dC, dI) B base G0 EX4_unitAt H0 [] t.heap) (jA base)) ([.ref r0, .int a1, .int a2] : List Value).toArray s 0 0 (jA base) := ⟨_, rfl⟩
  rw [← hQ]
  have hl := lv_entry ([.ref r0, .int a1, .int a2]) (n := 4) (Nat.le_of_ble_eq_true rfl)
  rw [lg_entry_eq]
  generalize (lg_sl ([.ref r0, .int a1, .int a2]) ++ List.replicate (4 - (lg_sl ([.ref r0, .int a1, .int a2])).length) Slot.unset).toArray = ls at hl ⊢
  have hl : lv_has ls 4 [(0, .ref r0), (1, .int a1), (2, .int a2)] := hl
  generalize hR : (headSpec (jw yX4_unitAt cX4_unitAt 4 (some .int)) ({ frames := 1, cells := 0, slots := 0, locals := 21 })).room = R
  subst hH0
  have hh : jSt (dC, dI) B base G0 G0 EX4_unitAt s.heap 0 0 [] [] [] s.heap [] := jSt.start hX hP0 jMc.nil jIs.nil
  clear hX hP0
  have hkm1 : ((-1) : Int32).toInt = (-1) := by decide
  have hk0 : (0 : Int32).toInt = 0 := by decide
  have hk1 : (1 : Int32).toInt = 1 := by decide
  have hk3 : (3 : Int32).toInt = 3 := by decide
  have hly_6_1 := htw (u_lay RX4 TX4 1) (jWc_wsX40 _ (u_in_lay (by decide)))
  have hly_6_6 := htw (u_lay RX4 TX4 6) (jWc_wsX40 _ (u_in_lay (by decide)))
  have hlk_15 := (htw (.fieldLink RX4 15 "ProofServer$Json" "firsts" "[I") (jWr_3 _ (List.mem_of_getElem? (i := 22) rfl)))
  have hlk_30 := (htw (.fieldLink RX4 30 "ProofServer$Json" "units" "[I") (jWr_4 _ (List.mem_of_getElem? (i := 3) rfl)))
  have hrg_a1 := jb_rng a1
  have hrg_a2 := jb_rng a2
  refine lv_aload_n hx hb dX4_unitAt_0 rfl (lv_at hl 0 rfl) ?_
  refine lv_iload_n hx hb dX4_unitAt_1 rfl (lv_at hl 1 rfl) ?_
  obtain ⟨v_3, hv_3, hh_4⟩ := hh.pin (C := RX4) (T := TX4) (N := 12) hB6 rfl (by decide) hg_r0 (i := 7) (by decide) rfl
  obtain ⟨values_5, rfl, hlovalues_5, hhivalues_5⟩ := hv_3
  refine va_calli (A0 := jA base) (H0 := s.heap) (va_runV (As := [.int a1]) (rest := []) ⟨hx, hb, hml, hown, hts⟩ (uX4_kindOf l dC dI ca base B hB hAp hB6 hB140 G0 s.heap r0 a1 values_5) (cwV 1 hts (jgV (jWr_23 _ (List.mem_of_getElem? (i := 14) rfl)) (jWr_23 _ (List.mem_of_getElem? (i := 15) rfl)) (jWr_23 _ (List.mem_of_getElem? (i := 16) rfl)) (jWr_1 _ (List.mem_of_getElem? (i := 22) rfl)) (jWr_23 _ (List.mem_of_getElem? (i := 17) rfl))) rfl rfl rfl (by decide +kernel) ⟨by rw [← hR]; exact Nat.le_of_ble_eq_true rfl, by rw [← hR]; exact Nat.le_of_ble_eq_true rfl⟩) ⟨fun a U g mk q => by obtain ⟨q0, q1, q2, qK, q10, q11, q12⟩ := q; exact ⟨q0, q1, q2, jG.calling g mk a qK, q10, q11, q12⟩, hh_4.recv (C := RX4) (T := TX4) (N := 12) hB6 rfl (by decide) hg_r0 hK, fun U hU hW => ⟨rfl, hU, hh_4.2.1, hG.step hW hU hh_4.1, hg_r0, (hh_4.2.2.1.sub (L1 := [(r0, 6, 7, .int values_5)]) [0] rfl), by first | omega | (refine ⟨?_, ?_⟩ <;> (first | omega | rfl | assumption | decide | exact Or.inl rfl | exact Or.inr rfl | (simp only; omega)))⟩⟩ rfl rfl hl.1 rfl (lv_room (Nat.le_of_ble_eq_true rfl)) dX4_unitAt_2 ⟨Nat.zero_le _, Nat.zero_le _⟩) hh_4.1 (fun q _ h => h) (fun q h => h) (fun r_2 u_1 t_1 H_1 locs_1 ht_1 hvm_1 hr_2 hb_1 hz_1 hk_1 hS_1 => ?_)
  rw [ht_1] at hb_1
  obtain ⟨hb_11, hb_12, hb_13, hb_14, hb_15⟩ := hb_1
  have hh_1 : jSt (dC, dI) B base G0 G0 EX4_unitAt s.heap 0 0 [(r0, 6, 7, .int values_5)] [] [] H_1 locs_1 := ((hh_4.call hb_11 hb_12 hb_13 hb_14 hS_1 rfl (L1 := [(r0, 6, 7, .int values_5)]) [0] rfl rfl (M1 := []) [] rfl rfl (I1 := []) [] rfl rfl).more hb_15)
  clear hh_4 ht_1 hvm_1 hz_1 hk_1 hS_1 hb_11 hb_12 hb_13 hb_14 hb_15
  refine lv_iconst (v := 3) hx hb dX4_unitAt_5 (by decide) ?_
  refine lv_icmp_ne (tgt := 20) hx hb dX4_unitAt_6 (by decide) (fun c_6 => ?_) (fun c_6 => ?_)
  · skip
    have c_6' : r_2.toInt ≠ 3 := jb_ne (rfl) ((by decide)) c_6
    try clear hr_2
    refine lv_iconst (v := (-1)) hx hb dX4_unitAt_20 (by decide) ?_
    refine lv_istore_n (lv' := [(3, .int (-1)), (0, .ref r0), (1, .int a1), (2, .int a2)]) hx hb dX4_unitAt_21 rfl hl (by decide) rfl (fun ls hl => ?_)
    refine lv_iload_n hx hb dX4_unitAt_22 rfl (lv_at hl 3 rfl) ?_
    refine lv_if_lt (tgt := 48) hx hb dX4_unitAt_23 (by decide) (fun c_7 => ?_) (fun c_7 => ?_)
    · skip
      have c_7' : a2.toInt < 0 := jb_lt (rfl) ((by decide)) c_7
      refine lv_iconst (v := 0) hx hb dX4_unitAt_48 (by decide) ?_
      refine lv_goto (tgt := 58) hx hb dX4_unitAt_49 (by decide) ?_
      rw [hQ]
      exact W.iret (v := 0) hx hb hr (fun t ht hW => ⟨⟨0, (), rfl, trivial, hh_1.rt (M1 := []) [] rfl ht⟩, by rw [ht]; try exact hh_1.1.1, fun q h9 hq => by rw [ht]; try exact hh_1.1.2.1 q h9 hq⟩) hh_1.1.2.2 dX4_unitAt_58
    · skip
      have c_7' : a2.toInt ≥ 0 := jb_lt_n (rfl) ((by decide)) c_7
      refine lv_iload_n hx hb dX4_unitAt_26 rfl (lv_at hl 3 rfl) ?_
      refine lv_aload_n hx hb dX4_unitAt_27 rfl (lv_at hl 1 rfl) ?_
      refine lv_iload_n hx hb dX4_unitAt_28 rfl (lv_at hl 2 rfl) ?_
      refine va_calli (A0 := jA base) (H0 := s.heap) (va_runV (As := [.int a1]) (rest := [.int a2]) ⟨hx, hb, hml, hown, hts⟩ (uX4_sizeOf l dC dI ca base B hB hAp hB6 hB142 G0 H_1 r0 a1) (cwV 1 hts (jgV (jWr_25 _ (List.mem_of_getElem? (i := 8) rfl)) (jWr_24 _ (List.mem_of_getElem? (i := 7) rfl)) (jWr_24 _ (List.mem_of_getElem? (i := 8) rfl)) (jWr_1 _ (List.mem_of_getElem? (i := 22) rfl)) (jWr_24 _ (List.mem_of_getElem? (i := 9) rfl))) rfl rfl rfl (by decide +kernel) ⟨by rw [← hR]; exact Nat.le_of_ble_eq_true rfl, by rw [← hR]; exact Nat.le_of_ble_eq_true rfl⟩) ⟨fun a U g mk q => by obtain ⟨q0, q1, q2, qK, q10, q11, q12⟩ := q; exact ⟨q0, q1, q2, jG.calling g mk a qK, q10, q11, q12⟩, hh_1.recv (C := RX4) (T := TX4) (N := 12) hB6 rfl (by decide) hg_r0 hK, fun U hU hW => ⟨rfl, hU, hh_1.2.1, hG.step hW hU hh_1.1, hg_r0, jP.nil, trivial⟩⟩ rfl rfl hl.1 rfl (lv_room (Nat.le_of_ble_eq_true rfl)) dX4_unitAt_29 ⟨Nat.zero_le _, Nat.zero_le _⟩) hh_1.1 (fun q _ h => h) (fun q h => h) (fun r_9 u_8 t_8 H_8 locs_8 ht_8 hvm_8 hr_9 hb_8 hz_8 hk_8 hS_8 => ?_)
      rw [ht_8] at hb_8
      obtain ⟨hb_81, hb_82, hb_83, hb_84, hb_85⟩ := hb_8
      have hh_8 : jSt (dC, dI) B base G0 G0 EX4_unitAt s.heap 0 0 [(r0, 6, 7, .int values_5)] [] [] H_8 locs_8 := ((hh_1.call hb_81 hb_82 hb_83 hb_84 hS_8 rfl (L1 := [(r0, 6, 7, .int values_5)]) [0] rfl rfl (M1 := []) [] rfl rfl (I1 := []) [] rfl rfl).more hb_85)
      clear hh_1 ht_8 hvm_8 hz_8 hk_8 hS_8 hb_81 hb_82 hb_83 hb_84 hb_85
      refine lv_icmp_ge (tgt := 48) hx hb dX4_unitAt_32 (by decide) (fun c_10 => ?_) (fun c_10 => ?_)
      · skip
        have c_10' : a2.toInt ≥ r_9.toInt := jb_ge (rfl) (rfl) c_10
        refine lv_iconst (v := 0) hx hb dX4_unitAt_48 (by decide) ?_
        refine lv_goto (tgt := 58) hx hb dX4_unitAt_49 (by decide) ?_
        rw [hQ]
        exact W.iret (v := 0) hx hb hr (fun t ht hW => ⟨⟨0, (), rfl, trivial, hh_8.rt (M1 := []) [] rfl ht⟩, by rw [ht]; try exact hh_8.1.1, fun q h9 hq => by rw [ht]; try exact hh_8.1.2.1 q h9 hq⟩) hh_8.1.2.2 dX4_unitAt_58
      · skip
        have c_10' : a2.toInt < r_9.toInt := jb_ge_n (rfl) (rfl) c_10
        refine lv_iload_n hx hb dX4_unitAt_35 rfl (lv_at hl 0 rfl) ?_
        refine lv_if_lt (tgt := 48) hx hb dX4_unitAt_36 (by decide) (fun c_11 => ?_) (fun c_11 => ?_)
        · skip
          refine lv_iconst (v := 0) hx hb dX4_unitAt_48 (by decide) ?_
          refine lv_goto (tgt := 58) hx hb dX4_unitAt_49 (by decide) ?_
          rw [hQ]
          exact W.iret (v := 0) hx hb hr (fun t ht hW => ⟨⟨0, (), rfl, trivial, hh_8.rt (M1 := []) [] rfl ht⟩, by rw [ht]; try exact hh_8.1.1, fun q h9 hq => by rw [ht]; try exact hh_8.1.2.1 q h9 hq⟩) hh_8.1.2.2 dX4_unitAt_58
        · skip
          exact absurd c_11 (by decide)
  · skip
    have c_6' : r_2.toInt = 3 := jb_ne_n (rfl) ((by decide)) c_6
    first | (have hr_2q := hr_2.resolve_left (by omega); clear hr_2) | (have hr_2q := hr_2.resolve_right (by omega); clear hr_2) | try clear hr_2
    refine lv_aload_n hx hb dX4_unitAt_9 rfl (lv_at hl 0 rfl) ?_
    obtain ⟨v_12, hv_12, hh_13⟩ := hh_1.pin (C := RX4) (T := TX4) (N := 12) hB6 rfl (by decide) hg_r0 (i := 1) (by decide) rfl
    clear hh_1
    obtain ⟨firsts_14, rfl, hg_firsts_14⟩ := hv_12
    refine j7_read hx hb hown hK (C := RX4) (T := TX4) (N := 12) rfl hly_6_1 hlk_15 (hh_13.at 0 rfl) dX4_unitAt_10 ?_
    refine lv_iload_n hx hb dX4_unitAt_13 rfl (lv_at hl 1 rfl) ?_
    refine j7_iald hx hb hK hh_13 hB141 1 rfl (by decide) hg_firsts_14 (x := a1.toInt) (rfl) (by omega) dX4_unitAt_14 (fun z_15 (hz_15 : True) => ?_)
    refine lv_iload_n hx hb dX4_unitAt_15 rfl (lv_at hl 2 rfl) ?_
    refine lv_iadd hx hb dX4_unitAt_16 ?_
    refine lv_topi (fun z_16 ez_16 => ?_)
    refine lv_goto (tgt := 21) hx hb dX4_unitAt_17 (by decide) ?_
    refine lv_istore_n (lv' := [(3, .int z_16), (0, .ref r0), (1, .int a1), (2, .int a2)]) hx hb dX4_unitAt_21 rfl hl (by decide) rfl (fun ls hl => ?_)
    refine lv_iload_n hx hb dX4_unitAt_22 rfl (lv_at hl 3 rfl) ?_
    refine lv_if_lt (tgt := 48) hx hb dX4_unitAt_23 (by decide) (fun c_17 => ?_) (fun c_17 => ?_)
    · skip
      have c_17' : a2.toInt < 0 := jb_lt (rfl) ((by decide)) c_17
      refine lv_iconst (v := 0) hx hb dX4_unitAt_48 (by decide) ?_
      refine lv_goto (tgt := 58) hx hb dX4_unitAt_49 (by decide) ?_
      rw [hQ]
      exact W.iret (v := 0) hx hb hr (fun t ht hW => ⟨⟨0, (), rfl, trivial, hh_13.rt (M1 := []) [] rfl ht⟩, by rw [ht]; try exact hh_13.1.1, fun q h9 hq => by rw [ht]; try exact hh_13.1.2.1 q h9 hq⟩) hh_13.1.2.2 dX4_unitAt_58
    · skip
      have c_17' : a2.toInt ≥ 0 := jb_lt_n (rfl) ((by decide)) c_17
      refine lv_iload_n hx hb dX4_unitAt_26 rfl (lv_at hl 3 rfl) ?_
      refine lv_aload_n hx hb dX4_unitAt_27 rfl (lv_at hl 1 rfl) ?_
      refine lv_iload_n hx hb dX4_unitAt_28 rfl (lv_at hl 2 rfl) ?_
      refine va_calli (A0 := jA base) (H0 := s.heap) (va_runV (As := [.int a1]) (rest := [.int a2]) ⟨hx, hb, hml, hown, hts⟩ (uX4_sizeOf l dC dI ca base B hB hAp hB6 hB142 G0 H_1 r0 a1) (cwV 1 hts (jgV (jWr_25 _ (List.mem_of_getElem? (i := 8) rfl)) (jWr_24 _ (List.mem_of_getElem? (i := 7) rfl)) (jWr_24 _ (List.mem_of_getElem? (i := 8) rfl)) (jWr_1 _ (List.mem_of_getElem? (i := 22) rfl)) (jWr_24 _ (List.mem_of_getElem? (i := 9) rfl))) rfl rfl rfl (by decide +kernel) ⟨by rw [← hR]; exact Nat.le_of_ble_eq_true rfl, by rw [← hR]; exact Nat.le_of_ble_eq_true rfl⟩) ⟨fun a U g mk q => by obtain ⟨q0, q1, q2, qK, q10, q11, q12⟩ := q; exact ⟨q0, q1, q2, jG.calling g mk a qK, q10, q11, q12⟩, hh_13.recv (C := RX4) (T := TX4) (N := 12) hB6 rfl (by decide) hg_r0 hK, fun U hU hW => ⟨rfl, hU, hh_13.2.1, hG.step hW hU hh_13.1, hg_r0, jP.nil, trivial⟩⟩ rfl rfl hl.1 rfl (lv_room (Nat.le_of_ble_eq_true rfl)) dX4_unitAt_29 ⟨Nat.zero_le _, Nat.zero_le _⟩) hh_13.1 (fun q _ h => h) (fun q h => h) (fun r_19 u_18 t_18 H_18 locs_18 ht_18 hvm_18 hr_19 hb_18 hz_18 hk_18 hS_18 => ?_)
      rw [ht_18] at hb_18
      obtain ⟨hb_181, hb_182, hb_183, hb_184, hb_185⟩ := hb_18
      have hh_18 : jSt (dC, dI) B base G0 G0 EX4_unitAt s.heap 0 0 [(r0, 6, 1, .ref firsts_14), (r0, 6, 7, .int values_5)] [] [] H_18 locs_18 := ((hh_13.call hb_181 hb_182 hb_183 hb_184 hS_18 rfl (L1 := [(r0, 6, 1, .ref firsts_14), (r0, 6, 7, .int values_5)]) [0, 1] rfl rfl (M1 := []) [] rfl rfl (I1 := []) [] rfl rfl).more hb_185)
      clear hh_13 ht_18 hvm_18 hz_18 hk_18 hS_18 hb_181 hb_182 hb_183 hb_184 hb_185
      refine lv_icmp_ge (tgt := 48) hx hb dX4_unitAt_32 (by decide) (fun c_20 => ?_) (fun c_20 => ?_)
      · skip
        have c_20' : a2.toInt ≥ r_19.toInt := jb_ge (rfl) (rfl) c_20
        refine lv_iconst (v := 0) hx hb dX4_unitAt_48 (by decide) ?_
        refine lv_goto (tgt := 58) hx hb dX4_unitAt_49 (by decide) ?_
        rw [hQ]
        exact W.iret (v := 0) hx hb hr (fun t ht hW => ⟨⟨0, (), rfl, trivial, hh_18.rt (M1 := []) [] rfl ht⟩, by rw [ht]; try exact hh_18.1.1, fun q h9 hq => by rw [ht]; try exact hh_18.1.2.1 q h9 hq⟩) hh_18.1.2.2 dX4_unitAt_58
      · skip
        have c_20' : a2.toInt < r_19.toInt := jb_ge_n (rfl) (rfl) c_20
        refine lv_iload_n hx hb dX4_unitAt_35 rfl (lv_at hl 0 rfl) ?_
        refine lv_if_lt (tgt := 48) hx hb dX4_unitAt_36 (by decide) (fun c_21 => ?_) (fun c_21 => ?_)
        · skip
          have c_21' : z_16.toInt < 0 := jb_lt (rfl) ((by decide)) c_21
          refine lv_iconst (v := 0) hx hb dX4_unitAt_48 (by decide) ?_
          refine lv_goto (tgt := 58) hx hb dX4_unitAt_49 (by decide) ?_
          rw [hQ]
          exact W.iret (v := 0) hx hb hr (fun t ht hW => ⟨⟨0, (), rfl, trivial, hh_18.rt (M1 := []) [] rfl ht⟩, by rw [ht]; try exact hh_18.1.1, fun q h9 hq => by rw [ht]; try exact hh_18.1.2.1 q h9 hq⟩) hh_18.1.2.2 dX4_unitAt_58
        · skip
          have c_21' : z_16.toInt ≥ 0 := jb_lt_n (rfl) ((by decide)) c_21
          refine lv_iload_n hx hb dX4_unitAt_39 rfl (lv_at hl 0 rfl) ?_
          refine lv_aload_n hx hb dX4_unitAt_40 rfl (lv_at hl 1 rfl) ?_
          obtain ⟨v_22, hv_22, hh_23⟩ := hh_18.pin (C := RX4) (T := TX4) (N := 12) hB6 rfl (by decide) hg_r0 (i := 6) (by decide) rfl
          clear hh_18
          obtain ⟨units_24, rfl, hg_units_24⟩ := hv_22
          refine j7_read hx hb hown hK (C := RX4) (T := TX4) (N := 12) rfl hly_6_6 hlk_30 (hh_23.at 0 rfl) dX4_unitAt_41 ?_
          refine j7_len hx hb hK hh_23 hB146 1 rfl (by decide) hg_units_24 (by omega) dX4_unitAt_44 (fun z_25 hz_25 => ?_)
          refine lv_icmp_lt (tgt := 52) hx hb dX4_unitAt_45 (by decide) (fun c_26 => ?_) (fun c_26 => ?_)
          · skip
            have c_26' : z_16.toInt < z_25.toInt := jb_lt (rfl) (rfl) c_26
            refine lv_aload_n hx hb dX4_unitAt_52 rfl (lv_at hl 1 rfl) ?_
            refine j7_read hx hb hown hK (C := RX4) (T := TX4) (N := 12) rfl hly_6_6 hlk_30 (hh_23.at 0 rfl) dX4_unitAt_53 ?_
            refine lv_iload_n hx hb dX4_unitAt_56 rfl (lv_at hl 0 rfl) ?_
            refine j7_iald hx hb hK hh_23 hB146 1 rfl (by decide) hg_units_24 (x := z_16.toInt) (rfl) (by omega) dX4_unitAt_57 (fun z_27 (hz_27 : True) => ?_)
            rw [hQ]
            exact W.iret (v := z_27) hx hb hr (fun t ht hW => ⟨⟨z_27, (), rfl, trivial, hh_23.rt (M1 := []) [] rfl ht⟩, by rw [ht]; try exact hh_23.1.1, fun q h9 hq => by rw [ht]; try exact hh_23.1.2.1 q h9 hq⟩) hh_23.1.2.2 dX4_unitAt_58
          · skip
            have c_26' : z_16.toInt ≥ z_25.toInt := jb_lt_n (rfl) (rfl) c_26
            refine lv_iconst (v := 0) hx hb dX4_unitAt_48 (by decide) ?_
            refine lv_goto (tgt := 58) hx hb dX4_unitAt_49 (by decide) ?_
            rw [hQ]
            exact W.iret (v := 0) hx hb hr (fun t ht hW => ⟨⟨0, (), rfl, trivial, hh_23.rt (M1 := []) [] rfl ht⟩, by rw [ht]; try exact hh_23.1.1, fun q h9 hq => by rw [ht]; try exact hh_23.1.2.1 q h9 hq⟩) hh_23.1.2.2 dX4_unitAt_58
end
section
def F15 (n : Nat) (G : jT) : List (Value → Prop) := [jRf G 150 120000, jRf G 151 120000, jRf G 152 120000, jRf G 153 120000, jRf G 154 120000, jI 0 120000, jRf G 166 12000, jI 0 12000, jRf G 155 1600, jRf G 156 1600, jI 0 1600, jI 0 16, jRf G 163 16, jRf G 103 16, jRf G 165 16, jI 0 16, jRf G 163 16, jRf G 160 16, jZb, jI 0 1599, jI 0 119999, jI 0 6, jRf G 161 46, jRf G 158 46, jRf G 163 276, jRf G 159 46, jRf G 163 368, jRf G 162 368, jRf G 167 1500, jRf G 157 1500, jI 0 1500, jIa, jI 0 1600, jZb, jI 0 9, jRf G 163 200, jI 0 200, jRf G 169 1, jI 0 1599, jI 0 1599, jI 0 1599, jI 0 3, jI 0 119999, jRf G 169 100, jRf G 168 100, jRf G 101 100000, jI 0 100000, jRf G 163 100, jRf G 164 100, jI 0 100]
end
section
def F3 (n : Nat) (G : jT) : List (Value → Prop) := [jRk G 101 3000, jIa, jRf G 101 1500, jI 0 1500, jI 0 40, jRf G 171 40, jRf G 172 40, jRf G 101 40, jRf G 101 40, jRf G 210 40, jI 0 40, jRm G 101 1500, jRn G 11 0, jIa, jIa, jIa, jI 0 1500]
theorem dX1_part_0 : decode cX1_part 0 = .ok (.aload_n 0, 1) := by decide +kernel
theorem dX1_part_1 : decode cX1_part 1 = .ok (.iconst 0, 1) := by decide +kernel
theorem dX1_part_2 : decode cX1_part 2 = .ok (.putfield 69, 3) := by decide +kernel
theorem dX1_part_5 : decode cX1_part 5 = .ok (.aload_n 0, 1) := by decide +kernel
theorem dX1_part_6 : decode cX1_part 6 = .ok (.iconst 0, 1) := by decide +kernel
theorem dX1_part_7 : decode cX1_part 7 = .ok (.invokevirtual 75, 3) := by decide +kernel
theorem dX1_part_10 : decode cX1_part 10 = .ok (.istore_n 2, 1) := by decide +kernel
theorem dX1_part_11 : decode cX1_part 11 = .ok (.iconst 0, 1) := by decide +kernel
theorem dX1_part_12 : decode cX1_part 12 = .ok (.istore_n 3, 1) := by decide +kernel
theorem dX1_part_13 : decode cX1_part 13 = .ok (.iload_n 3, 1) := by decide +kernel
theorem dX1_part_14 : decode cX1_part 14 = .ok (.bipush 40, 2) := by decide +kernel
theorem dX1_part_16 : decode cX1_part 16 = .ok (.if_icmp .ge 85, 3) := by decide +kernel
theorem dX1_part_19 : decode cX1_part 19 = .ok (.iload_n 2, 1) := by decide +kernel
theorem dX1_part_20 : decode cX1_part 20 = .ok (.aload_n 0, 1) := by decide +kernel
theorem dX1_part_21 : decode cX1_part 21 = .ok (.getfield 42, 3) := by decide +kernel
theorem dX1_part_24 : decode cX1_part 24 = .ok (.if_icmp .ge 77, 3) := by decide +kernel
theorem dX1_part_27 : decode cX1_part 27 = .ok (.aload_n 0, 1) := by decide +kernel
theorem dX1_part_28 : decode cX1_part 28 = .ok (.iload_n 2, 1) := by decide +kernel
theorem dX1_part_29 : decode cX1_part 29 = .ok (.invokevirtual 78, 3) := by decide +kernel
theorem dX1_part_32 : decode cX1_part 32 = .ok (.istore 4, 2) := by decide +kernel
theorem dX1_part_34 : decode cX1_part 34 = .ok (.aload_n 0, 1) := by decide +kernel
theorem dX1_part_35 : decode cX1_part 35 = .ok (.getfield 18, 3) := by decide +kernel
theorem dX1_part_38 : decode cX1_part 38 = .ok (.iload_n 3, 1) := by decide +kernel
theorem dX1_part_39 : decode cX1_part 39 = .ok (.iload_n 2, 1) := by decide +kernel
theorem dX1_part_40 : decode cX1_part 40 = .ok (.iastore, 1) := by decide +kernel
theorem dX1_part_41 : decode cX1_part 41 = .ok (.aload_n 0, 1) := by decide +kernel
theorem dX1_part_42 : decode cX1_part 42 = .ok (.getfield 21, 3) := by decide +kernel
theorem dX1_part_45 : decode cX1_part 45 = .ok (.iload_n 3, 1) := by decide +kernel
theorem dX1_part_46 : decode cX1_part 46 = .ok (.iload 4, 2) := by decide +kernel
theorem dX1_part_48 : decode cX1_part 48 = .ok (.ifCond .ge 10, 3) := by decide +kernel
theorem dX1_part_51 : decode cX1_part 51 = .ok (.aload_n 0, 1) := by decide +kernel
theorem dX1_part_52 : decode cX1_part 52 = .ok (.getfield 42, 3) := by decide +kernel
theorem dX1_part_55 : decode cX1_part 55 = .ok (.goto 5, 3) := by decide +kernel
theorem dX1_part_58 : decode cX1_part 58 = .ok (.iload 4, 2) := by decide +kernel
theorem dX1_part_60 : decode cX1_part 60 = .ok (.iastore, 1) := by decide +kernel
theorem dX1_part_61 : decode cX1_part 61 = .ok (.aload_n 0, 1) := by decide +kernel
theorem dX1_part_62 : decode cX1_part 62 = .ok (.getfield 27, 3) := by decide +kernel
theorem dX1_part_65 : decode cX1_part 65 = .ok (.iload_n 3, 1) := by decide +kernel
theorem dX1_part_66 : decode cX1_part 66 = .ok (.iload 4, 2) := by decide +kernel
theorem dX1_part_68 : decode cX1_part 68 = .ok (.ifCond .ge 7, 3) := by decide +kernel
theorem dX1_part_71 : decode cX1_part 71 = .ok (.iconst 1, 1) := by decide +kernel
theorem dX1_part_72 : decode cX1_part 72 = .ok (.goto 4, 3) := by decide +kernel
theorem dX1_part_75 : decode cX1_part 75 = .ok (.iconst 0, 1) := by decide +kernel
theorem dX1_part_76 : decode cX1_part 76 = .ok (.iastore, 1) := by decide +kernel
theorem dX1_part_77 : decode cX1_part 77 = .ok (.aload_n 0, 1) := by decide +kernel
theorem dX1_part_78 : decode cX1_part 78 = .ok (.iload_n 3, 1) := by decide +kernel
theorem dX1_part_79 : decode cX1_part 79 = .ok (.iconst 1, 1) := by decide +kernel
theorem dX1_part_80 : decode cX1_part 80 = .ok (.iadd, 1) := by decide +kernel
theorem dX1_part_81 : decode cX1_part 81 = .ok (.putfield 69, 3) := by decide +kernel
theorem dX1_part_84 : decode cX1_part 84 = .ok (.aload_n 0, 1) := by decide +kernel
theorem dX1_part_85 : decode cX1_part 85 = .ok (.aload_n 0, 1) := by decide +kernel
theorem dX1_part_86 : decode cX1_part 86 = .ok (.getfield 21, 3) := by decide +kernel
theorem dX1_part_89 : decode cX1_part 89 = .ok (.iload_n 3, 1) := by decide +kernel
theorem dX1_part_90 : decode cX1_part 90 = .ok (.iaload, 1) := by decide +kernel
theorem dX1_part_91 : decode cX1_part 91 = .ok (.invokevirtual 75, 3) := by decide +kernel
theorem dX1_part_94 : decode cX1_part 94 = .ok (.istore_n 2, 1) := by decide +kernel
theorem dX1_part_95 : decode cX1_part 95 = .ok (.iinc 3 1, 3) := by decide +kernel
theorem dX1_part_98 : decode cX1_part 98 = .ok (.goto (-85), 3) := by decide +kernel
theorem dX1_part_101 : decode cX1_part 101 = .ok (.iload_n 2, 1) := by decide +kernel
theorem dX1_part_102 : decode cX1_part 102 = .ok (.aload_n 0, 1) := by decide +kernel
theorem dX1_part_103 : decode cX1_part 103 = .ok (.getfield 42, 3) := by decide +kernel
theorem dX1_part_106 : decode cX1_part 106 = .ok (.if_icmp .ge 31, 3) := by decide +kernel
theorem dX1_part_109 : decode cX1_part 109 = .ok (.aload_n 0, 1) := by decide +kernel
theorem dX1_part_110 : decode cX1_part 110 = .ok (.getfield 69, 3) := by decide +kernel
theorem dX1_part_113 : decode cX1_part 113 = .ok (.bipush 40, 2) := by decide +kernel
theorem dX1_part_115 : decode cX1_part 115 = .ok (.if_icmp .ne 22, 3) := by decide +kernel
theorem dX1_part_118 : decode cX1_part 118 = .ok (.aload_n 0, 1) := by decide +kernel
theorem dX1_part_119 : decode cX1_part 119 = .ok (.getfield 21, 3) := by decide +kernel
theorem dX1_part_122 : decode cX1_part 122 = .ok (.bipush 39, 2) := by decide +kernel
theorem dX1_part_124 : decode cX1_part 124 = .ok (.aload_n 0, 1) := by decide +kernel
theorem dX1_part_125 : decode cX1_part 125 = .ok (.getfield 42, 3) := by decide +kernel
theorem dX1_part_128 : decode cX1_part 128 = .ok (.iastore, 1) := by decide +kernel
theorem dX1_part_129 : decode cX1_part 129 = .ok (.aload_n 0, 1) := by decide +kernel
theorem dX1_part_130 : decode cX1_part 130 = .ok (.getfield 27, 3) := by decide +kernel
theorem dX1_part_133 : decode cX1_part 133 = .ok (.bipush 39, 2) := by decide +kernel
theorem dX1_part_135 : decode cX1_part 135 = .ok (.iconst 2, 1) := by decide +kernel
theorem dX1_part_136 : decode cX1_part 136 = .ok (.iastore, 1) := by decide +kernel
theorem dX1_part_137 : decode cX1_part 137 = .ok (.iconst 0, 1) := by decide +kernel
theorem dX1_part_138 : decode cX1_part 138 = .ok (.istore_n 3, 1) := by decide +kernel
theorem dX1_part_139 : decode cX1_part 139 = .ok (.iload_n 3, 1) := by decide +kernel
theorem dX1_part_140 : decode cX1_part 140 = .ok (.aload_n 0, 1) := by decide +kernel
theorem dX1_part_141 : decode cX1_part 141 = .ok (.getfield 69, 3) := by decide +kernel
theorem dX1_part_144 : decode cX1_part 144 = .ok (.if_icmp .ge 50, 3) := by decide +kernel
theorem dX1_part_147 : decode cX1_part 147 = .ok (.aload_n 0, 1) := by decide +kernel
theorem dX1_part_148 : decode cX1_part 148 = .ok (.getfield 24, 3) := by decide +kernel
theorem dX1_part_151 : decode cX1_part 151 = .ok (.iload_n 3, 1) := by decide +kernel
theorem dX1_part_152 : decode cX1_part 152 = .ok (.iconst 3, 1) := by decide +kernel
theorem dX1_part_153 : decode cX1_part 153 = .ok (.aload_n 0, 1) := by decide +kernel
theorem dX1_part_154 : decode cX1_part 154 = .ok (.getfield 27, 3) := by decide +kernel
theorem dX1_part_157 : decode cX1_part 157 = .ok (.iload_n 3, 1) := by decide +kernel
theorem dX1_part_158 : decode cX1_part 158 = .ok (.iaload, 1) := by decide +kernel
theorem dX1_part_159 : decode cX1_part 159 = .ok (.ifCond .le 7, 3) := by decide +kernel
theorem dX1_part_162 : decode cX1_part 162 = .ok (.iconst 1, 1) := by decide +kernel
theorem dX1_part_163 : decode cX1_part 163 = .ok (.goto 23, 3) := by decide +kernel
theorem dX1_part_166 : decode cX1_part 166 = .ok (.aload_n 1, 1) := by decide +kernel
theorem dX1_part_167 : decode cX1_part 167 = .ok (.aload_n 0, 1) := by decide +kernel
theorem dX1_part_168 : decode cX1_part 168 = .ok (.getfield 15, 3) := by decide +kernel
theorem dX1_part_171 : decode cX1_part 171 = .ok (.aload_n 0, 1) := by decide +kernel
theorem dX1_part_172 : decode cX1_part 172 = .ok (.getfield 18, 3) := by decide +kernel
theorem dX1_part_175 : decode cX1_part 175 = .ok (.iload_n 3, 1) := by decide +kernel
theorem dX1_part_176 : decode cX1_part 176 = .ok (.iaload, 1) := by decide +kernel
theorem dX1_part_177 : decode cX1_part 177 = .ok (.aload_n 0, 1) := by decide +kernel
theorem dX1_part_178 : decode cX1_part 178 = .ok (.getfield 21, 3) := by decide +kernel
theorem dX1_part_181 : decode cX1_part 181 = .ok (.iload_n 3, 1) := by decide +kernel
theorem dX1_part_182 : decode cX1_part 182 = .ok (.iaload, 1) := by decide +kernel
theorem dX1_part_183 : decode cX1_part 183 = .ok (.invokevirtual 81, 3) := by decide +kernel
theorem dX1_part_186 : decode cX1_part 186 = .ok (.iadd, 1) := by decide +kernel
theorem dX1_part_187 : decode cX1_part 187 = .ok (.iastore, 1) := by decide +kernel
theorem dX1_part_188 : decode cX1_part 188 = .ok (.iinc 3 1, 3) := by decide +kernel
theorem dX1_part_191 : decode cX1_part 191 = .ok (.goto (-52), 3) := by decide +kernel
theorem dX1_part_194 : decode cX1_part 194 = .ok (.return_, 1) := by decide +kernel
theorem dX1_sentenceBegin_0 : decode cX1_sentenceBegin 0 = .ok (.iload_n 1, 1) := by decide +kernel
theorem dX1_sentenceBegin_1 : decode cX1_sentenceBegin 1 = .ok (.istore_n 2, 1) := by decide +kernel
theorem dX1_sentenceBegin_2 : decode cX1_sentenceBegin 2 = .ok (.iconst 0, 1) := by decide +kernel
theorem dX1_sentenceBegin_3 : decode cX1_sentenceBegin 3 = .ok (.istore_n 3, 1) := by decide +kernel
theorem dX1_sentenceBegin_4 : decode cX1_sentenceBegin 4 = .ok (.iload_n 3, 1) := by decide +kernel
theorem dX1_sentenceBegin_5 : decode cX1_sentenceBegin 5 = .ok (.aload_n 0, 1) := by decide +kernel
theorem dX1_sentenceBegin_6 : decode cX1_sentenceBegin 6 = .ok (.getfield 42, 3) := by decide +kernel
theorem dX1_sentenceBegin_9 : decode cX1_sentenceBegin 9 = .ok (.if_icmp .gt 59, 3) := by decide +kernel
theorem dX1_sentenceBegin_12 : decode cX1_sentenceBegin 12 = .ok (.iload_n 2, 1) := by decide +kernel
theorem dX1_sentenceBegin_13 : decode cX1_sentenceBegin 13 = .ok (.aload_n 0, 1) := by decide +kernel
theorem dX1_sentenceBegin_14 : decode cX1_sentenceBegin 14 = .ok (.getfield 42, 3) := by decide +kernel
theorem dX1_sentenceBegin_17 : decode cX1_sentenceBegin 17 = .ok (.if_icmp .ge 51, 3) := by decide +kernel
theorem dX1_sentenceBegin_20 : decode cX1_sentenceBegin 20 = .ok (.aload_n 0, 1) := by decide +kernel
theorem dX1_sentenceBegin_21 : decode cX1_sentenceBegin 21 = .ok (.getfield 15, 3) := by decide +kernel
theorem dX1_sentenceBegin_24 : decode cX1_sentenceBegin 24 = .ok (.iload_n 2, 1) := by decide +kernel
theorem dX1_sentenceBegin_25 : decode cX1_sentenceBegin 25 = .ok (.iaload, 1) := by decide +kernel
theorem dX1_sentenceBegin_26 : decode cX1_sentenceBegin 26 = .ok (.invokestatic 87, 3) := by decide +kernel
theorem dX1_sentenceBegin_29 : decode cX1_sentenceBegin 29 = .ok (.ifCond .eq 9, 3) := by decide +kernel
theorem dX1_sentenceBegin_32 : decode cX1_sentenceBegin 32 = .ok (.iinc 2 1, 3) := by decide +kernel
theorem dX1_sentenceBegin_35 : decode cX1_sentenceBegin 35 = .ok (.goto 27, 3) := by decide +kernel
theorem dX1_sentenceBegin_38 : decode cX1_sentenceBegin 38 = .ok (.aload_n 0, 1) := by decide +kernel
theorem dX1_sentenceBegin_39 : decode cX1_sentenceBegin 39 = .ok (.getfield 15, 3) := by decide +kernel
theorem dX1_sentenceBegin_42 : decode cX1_sentenceBegin 42 = .ok (.iload_n 2, 1) := by decide +kernel
theorem dX1_sentenceBegin_43 : decode cX1_sentenceBegin 43 = .ok (.aload_n 0, 1) := by decide +kernel
theorem dX1_sentenceBegin_44 : decode cX1_sentenceBegin 44 = .ok (.getfield 42, 3) := by decide +kernel
theorem dX1_sentenceBegin_47 : decode cX1_sentenceBegin 47 = .ok (.invokestatic 91, 3) := by decide +kernel
theorem dX1_sentenceBegin_50 : decode cX1_sentenceBegin 50 = .ok (.istore 4, 2) := by decide +kernel
theorem dX1_sentenceBegin_52 : decode cX1_sentenceBegin 52 = .ok (.iload 4, 2) := by decide +kernel
theorem dX1_sentenceBegin_54 : decode cX1_sentenceBegin 54 = .ok (.ifCond .ge 5, 3) := by decide +kernel
theorem dX1_sentenceBegin_57 : decode cX1_sentenceBegin 57 = .ok (.iload_n 2, 1) := by decide +kernel
theorem dX1_sentenceBegin_58 : decode cX1_sentenceBegin 58 = .ok (.ireturn, 1) := by decide +kernel
theorem dX1_sentenceBegin_59 : decode cX1_sentenceBegin 59 = .ok (.iload 4, 2) := by decide +kernel
theorem dX1_sentenceBegin_61 : decode cX1_sentenceBegin 61 = .ok (.istore_n 2, 1) := by decide +kernel
theorem dX1_sentenceBegin_62 : decode cX1_sentenceBegin 62 = .ok (.iinc 3 1, 3) := by decide +kernel
theorem dX1_sentenceBegin_65 : decode cX1_sentenceBegin 65 = .ok (.goto (-61), 3) := by decide +kernel
theorem dX1_sentenceBegin_68 : decode cX1_sentenceBegin 68 = .ok (.iload_n 2, 1) := by decide +kernel
theorem dX1_sentenceBegin_69 : decode cX1_sentenceBegin 69 = .ok (.ireturn, 1) := by decide +kernel
theorem dX1_sentenceEnd_0 : decode cX1_sentenceEnd 0 = .ok (.iload_n 1, 1) := by decide +kernel
theorem dX1_sentenceEnd_1 : decode cX1_sentenceEnd 1 = .ok (.istore_n 2, 1) := by decide +kernel
theorem dX1_sentenceEnd_2 : decode cX1_sentenceEnd 2 = .ok (.iconst 0, 1) := by decide +kernel
theorem dX1_sentenceEnd_3 : decode cX1_sentenceEnd 3 = .ok (.istore_n 3, 1) := by decide +kernel
theorem dX1_sentenceEnd_4 : decode cX1_sentenceEnd 4 = .ok (.iload_n 3, 1) := by decide +kernel
theorem dX1_sentenceEnd_5 : decode cX1_sentenceEnd 5 = .ok (.aload_n 0, 1) := by decide +kernel
theorem dX1_sentenceEnd_6 : decode cX1_sentenceEnd 6 = .ok (.getfield 42, 3) := by decide +kernel
theorem dX1_sentenceEnd_9 : decode cX1_sentenceEnd 9 = .ok (.if_icmp .gt 114, 3) := by decide +kernel
theorem dX1_sentenceEnd_12 : decode cX1_sentenceEnd 12 = .ok (.iload_n 2, 1) := by decide +kernel
theorem dX1_sentenceEnd_13 : decode cX1_sentenceEnd 13 = .ok (.aload_n 0, 1) := by decide +kernel
theorem dX1_sentenceEnd_14 : decode cX1_sentenceEnd 14 = .ok (.getfield 42, 3) := by decide +kernel
theorem dX1_sentenceEnd_17 : decode cX1_sentenceEnd 17 = .ok (.if_icmp .ge 106, 3) := by decide +kernel
theorem dX1_sentenceEnd_20 : decode cX1_sentenceEnd 20 = .ok (.aload_n 0, 1) := by decide +kernel
theorem dX1_sentenceEnd_21 : decode cX1_sentenceEnd 21 = .ok (.getfield 15, 3) := by decide +kernel
theorem dX1_sentenceEnd_24 : decode cX1_sentenceEnd 24 = .ok (.iload_n 2, 1) := by decide +kernel
theorem dX1_sentenceEnd_25 : decode cX1_sentenceEnd 25 = .ok (.aload_n 0, 1) := by decide +kernel
theorem dX1_sentenceEnd_26 : decode cX1_sentenceEnd 26 = .ok (.getfield 42, 3) := by decide +kernel
theorem dX1_sentenceEnd_29 : decode cX1_sentenceEnd 29 = .ok (.invokestatic 94, 3) := by decide +kernel
theorem dX1_sentenceEnd_32 : decode cX1_sentenceEnd 32 = .ok (.ifCond .eq 22, 3) := by decide +kernel
theorem dX1_sentenceEnd_35 : decode cX1_sentenceEnd 35 = .ok (.aload_n 0, 1) := by decide +kernel
theorem dX1_sentenceEnd_36 : decode cX1_sentenceEnd 36 = .ok (.getfield 15, 3) := by decide +kernel
theorem dX1_sentenceEnd_39 : decode cX1_sentenceEnd 39 = .ok (.iload_n 2, 1) := by decide +kernel
theorem dX1_sentenceEnd_40 : decode cX1_sentenceEnd 40 = .ok (.aload_n 0, 1) := by decide +kernel
theorem dX1_sentenceEnd_41 : decode cX1_sentenceEnd 41 = .ok (.getfield 42, 3) := by decide +kernel
theorem dX1_sentenceEnd_44 : decode cX1_sentenceEnd 44 = .ok (.invokestatic 91, 3) := by decide +kernel
theorem dX1_sentenceEnd_47 : decode cX1_sentenceEnd 47 = .ok (.istore_n 2, 1) := by decide +kernel
theorem dX1_sentenceEnd_48 : decode cX1_sentenceEnd 48 = .ok (.iload_n 2, 1) := by decide +kernel
theorem dX1_sentenceEnd_49 : decode cX1_sentenceEnd 49 = .ok (.ifCond .ge 68, 3) := by decide +kernel
theorem dX1_sentenceEnd_52 : decode cX1_sentenceEnd 52 = .ok (.iconst (-1), 1) := by decide +kernel
theorem dX1_sentenceEnd_53 : decode cX1_sentenceEnd 53 = .ok (.ireturn, 1) := by decide +kernel
theorem dX1_sentenceEnd_54 : decode cX1_sentenceEnd 54 = .ok (.aload_n 0, 1) := by decide +kernel
theorem dX1_sentenceEnd_55 : decode cX1_sentenceEnd 55 = .ok (.getfield 15, 3) := by decide +kernel
theorem dX1_sentenceEnd_58 : decode cX1_sentenceEnd 58 = .ok (.iload_n 2, 1) := by decide +kernel
theorem dX1_sentenceEnd_59 : decode cX1_sentenceEnd 59 = .ok (.iaload, 1) := by decide +kernel
theorem dX1_sentenceEnd_60 : decode cX1_sentenceEnd 60 = .ok (.bipush 46, 2) := by decide +kernel
theorem dX1_sentenceEnd_62 : decode cX1_sentenceEnd 62 = .ok (.if_icmp .ne 7, 3) := by decide +kernel
theorem dX1_sentenceEnd_65 : decode cX1_sentenceEnd 65 = .ok (.iconst 1, 1) := by decide +kernel
theorem dX1_sentenceEnd_66 : decode cX1_sentenceEnd 66 = .ok (.goto 4, 3) := by decide +kernel
theorem dX1_sentenceEnd_69 : decode cX1_sentenceEnd 69 = .ok (.iconst 0, 1) := by decide +kernel
theorem dX1_sentenceEnd_70 : decode cX1_sentenceEnd 70 = .ok (.istore 4, 2) := by decide +kernel
theorem dX1_sentenceEnd_72 : decode cX1_sentenceEnd 72 = .ok (.iinc 2 1, 3) := by decide +kernel
theorem dX1_sentenceEnd_75 : decode cX1_sentenceEnd 75 = .ok (.iload 4, 2) := by decide +kernel
theorem dX1_sentenceEnd_77 : decode cX1_sentenceEnd 77 = .ok (.ifCond .eq 40, 3) := by decide +kernel
theorem dX1_sentenceEnd_80 : decode cX1_sentenceEnd 80 = .ok (.iload_n 2, 1) := by decide +kernel
theorem dX1_sentenceEnd_81 : decode cX1_sentenceEnd 81 = .ok (.aload_n 0, 1) := by decide +kernel
theorem dX1_sentenceEnd_82 : decode cX1_sentenceEnd 82 = .ok (.getfield 42, 3) := by decide +kernel
theorem dX1_sentenceEnd_85 : decode cX1_sentenceEnd 85 = .ok (.if_icmp .eq 30, 3) := by decide +kernel
theorem dX1_sentenceEnd_88 : decode cX1_sentenceEnd 88 = .ok (.aload_n 0, 1) := by decide +kernel
theorem dX1_sentenceEnd_89 : decode cX1_sentenceEnd 89 = .ok (.getfield 15, 3) := by decide +kernel
theorem dX1_sentenceEnd_92 : decode cX1_sentenceEnd 92 = .ok (.iload_n 2, 1) := by decide +kernel
theorem dX1_sentenceEnd_93 : decode cX1_sentenceEnd 93 = .ok (.iaload, 1) := by decide +kernel
theorem dX1_sentenceEnd_94 : decode cX1_sentenceEnd 94 = .ok (.invokestatic 87, 3) := by decide +kernel
theorem dX1_sentenceEnd_97 : decode cX1_sentenceEnd 97 = .ok (.ifCond .ne 18, 3) := by decide +kernel
theorem dX1_sentenceEnd_100 : decode cX1_sentenceEnd 100 = .ok (.aload_n 0, 1) := by decide +kernel
theorem dX1_sentenceEnd_101 : decode cX1_sentenceEnd 101 = .ok (.getfield 15, 3) := by decide +kernel
theorem dX1_sentenceEnd_104 : decode cX1_sentenceEnd 104 = .ok (.iload_n 2, 1) := by decide +kernel
theorem dX1_sentenceEnd_105 : decode cX1_sentenceEnd 105 = .ok (.aload_n 0, 1) := by decide +kernel
theorem dX1_sentenceEnd_106 : decode cX1_sentenceEnd 106 = .ok (.getfield 42, 3) := by decide +kernel
theorem dX1_sentenceEnd_109 : decode cX1_sentenceEnd 109 = .ok (.invokestatic 94, 3) := by decide +kernel
theorem dX1_sentenceEnd_112 : decode cX1_sentenceEnd 112 = .ok (.ifCond .eq 5, 3) := by decide +kernel
theorem dX1_sentenceEnd_115 : decode cX1_sentenceEnd 115 = .ok (.iload_n 2, 1) := by decide +kernel
theorem dX1_sentenceEnd_116 : decode cX1_sentenceEnd 116 = .ok (.ireturn, 1) := by decide +kernel
theorem dX1_sentenceEnd_117 : decode cX1_sentenceEnd 117 = .ok (.iinc 3 1, 3) := by decide +kernel
theorem dX1_sentenceEnd_120 : decode cX1_sentenceEnd 120 = .ok (.goto (-116), 3) := by decide +kernel
theorem dX1_sentenceEnd_123 : decode cX1_sentenceEnd 123 = .ok (.iconst (-1), 1) := by decide +kernel
theorem dX1_sentenceEnd_124 : decode cX1_sentenceEnd 124 = .ok (.ireturn, 1) := by decide +kernel
theorem dX1_endsLine_0 : decode cX1_endsLine 0 = .ok (.aload_n 0, 1) := by decide +kernel
theorem dX1_endsLine_1 : decode cX1_endsLine 1 = .ok (.getfield 15, 3) := by decide +kernel
theorem dX1_endsLine_4 : decode cX1_endsLine 4 = .ok (.iload_n 1, 1) := by decide +kernel
theorem dX1_endsLine_5 : decode cX1_endsLine 5 = .ok (.iaload, 1) := by decide +kernel
theorem dX1_endsLine_6 : decode cX1_endsLine 6 = .ok (.bipush 13, 2) := by decide +kernel
theorem dX1_endsLine_8 : decode cX1_endsLine 8 = .ok (.if_icmp .ne 7, 3) := by decide +kernel
theorem dX1_endsLine_11 : decode cX1_endsLine 11 = .ok (.iconst 1, 1) := by decide +kernel
theorem dX1_endsLine_12 : decode cX1_endsLine 12 = .ok (.goto 4, 3) := by decide +kernel
theorem dX1_endsLine_15 : decode cX1_endsLine 15 = .ok (.iconst 0, 1) := by decide +kernel
theorem dX1_endsLine_16 : decode cX1_endsLine 16 = .ok (.istore_n 2, 1) := by decide +kernel
theorem dX1_endsLine_17 : decode cX1_endsLine 17 = .ok (.aload_n 0, 1) := by decide +kernel
theorem dX1_endsLine_18 : decode cX1_endsLine 18 = .ok (.getfield 15, 3) := by decide +kernel
theorem dX1_endsLine_21 : decode cX1_endsLine 21 = .ok (.iload_n 1, 1) := by decide +kernel
theorem dX1_endsLine_22 : decode cX1_endsLine 22 = .ok (.iaload, 1) := by decide +kernel
theorem dX1_endsLine_23 : decode cX1_endsLine 23 = .ok (.bipush 10, 2) := by decide +kernel
theorem dX1_endsLine_25 : decode cX1_endsLine 25 = .ok (.if_icmp .eq 30, 3) := by decide +kernel
theorem dX1_endsLine_28 : decode cX1_endsLine 28 = .ok (.iload_n 2, 1) := by decide +kernel
theorem dX1_endsLine_29 : decode cX1_endsLine 29 = .ok (.ifCond .eq 30, 3) := by decide +kernel
theorem dX1_endsLine_32 : decode cX1_endsLine 32 = .ok (.iload_n 1, 1) := by decide +kernel
theorem dX1_endsLine_33 : decode cX1_endsLine 33 = .ok (.iconst 1, 1) := by decide +kernel
theorem dX1_endsLine_34 : decode cX1_endsLine 34 = .ok (.iadd, 1) := by decide +kernel
theorem dX1_endsLine_35 : decode cX1_endsLine 35 = .ok (.aload_n 0, 1) := by decide +kernel
theorem dX1_endsLine_36 : decode cX1_endsLine 36 = .ok (.getfield 42, 3) := by decide +kernel
theorem dX1_endsLine_39 : decode cX1_endsLine 39 = .ok (.if_icmp .ge 16, 3) := by decide +kernel
theorem dX1_endsLine_42 : decode cX1_endsLine 42 = .ok (.aload_n 0, 1) := by decide +kernel
theorem dX1_endsLine_43 : decode cX1_endsLine 43 = .ok (.getfield 15, 3) := by decide +kernel
theorem dX1_endsLine_46 : decode cX1_endsLine 46 = .ok (.iload_n 1, 1) := by decide +kernel
theorem dX1_endsLine_47 : decode cX1_endsLine 47 = .ok (.iconst 1, 1) := by decide +kernel
theorem dX1_endsLine_48 : decode cX1_endsLine 48 = .ok (.iadd, 1) := by decide +kernel
theorem dX1_endsLine_49 : decode cX1_endsLine 49 = .ok (.iaload, 1) := by decide +kernel
theorem dX1_endsLine_50 : decode cX1_endsLine 50 = .ok (.bipush 10, 2) := by decide +kernel
theorem dX1_endsLine_52 : decode cX1_endsLine 52 = .ok (.if_icmp .eq 7, 3) := by decide +kernel
theorem dX1_endsLine_55 : decode cX1_endsLine 55 = .ok (.iconst 1, 1) := by decide +kernel
theorem dX1_endsLine_56 : decode cX1_endsLine 56 = .ok (.goto 4, 3) := by decide +kernel
theorem dX1_endsLine_59 : decode cX1_endsLine 59 = .ok (.iconst 0, 1) := by decide +kernel
theorem dX1_endsLine_60 : decode cX1_endsLine 60 = .ok (.ireturn, 1) := by decide +kernel
theorem dX1_rewind_0 : decode cX1_rewind 0 = .ok (.aload_n 0, 1) := by decide +kernel
theorem dX1_rewind_1 : decode cX1_rewind 1 = .ok (.iconst 0, 1) := by decide +kernel
theorem dX1_rewind_2 : decode cX1_rewind 2 = .ok (.putfield 111, 3) := by decide +kernel
theorem dX1_rewind_5 : decode cX1_rewind 5 = .ok (.aload_n 0, 1) := by decide +kernel
theorem dX1_rewind_6 : decode cX1_rewind 6 = .ok (.iconst 0, 1) := by decide +kernel
theorem dX1_rewind_7 : decode cX1_rewind 7 = .ok (.putfield 114, 3) := by decide +kernel
theorem dX1_rewind_10 : decode cX1_rewind 10 = .ok (.aload_n 0, 1) := by decide +kernel
theorem dX1_rewind_11 : decode cX1_rewind 11 = .ok (.iconst 0, 1) := by decide +kernel
theorem dX1_rewind_12 : decode cX1_rewind 12 = .ok (.putfield 117, 3) := by decide +kernel
theorem dX1_rewind_15 : decode cX1_rewind 15 = .ok (.return_, 1) := by decide +kernel
theorem dX1_seek_0 : decode cX1_seek 0 = .ok (.aload_n 0, 1) := by decide +kernel
theorem dX1_seek_1 : decode cX1_seek 1 = .ok (.getfield 117, 3) := by decide +kernel
theorem dX1_seek_4 : decode cX1_seek 4 = .ok (.iload_n 1, 1) := by decide +kernel
theorem dX1_seek_5 : decode cX1_seek 5 = .ok (.if_icmp .ge 58, 3) := by decide +kernel
theorem dX1_seek_8 : decode cX1_seek 8 = .ok (.aload_n 0, 1) := by decide +kernel
theorem dX1_seek_9 : decode cX1_seek 9 = .ok (.getfield 117, 3) := by decide +kernel
theorem dX1_seek_12 : decode cX1_seek 12 = .ok (.aload_n 0, 1) := by decide +kernel
theorem dX1_seek_13 : decode cX1_seek 13 = .ok (.getfield 42, 3) := by decide +kernel
theorem dX1_seek_16 : decode cX1_seek 16 = .ok (.if_icmp .ge 47, 3) := by decide +kernel
theorem dX1_seek_19 : decode cX1_seek 19 = .ok (.aload_n 0, 1) := by decide +kernel
theorem dX1_seek_20 : decode cX1_seek 20 = .ok (.aload_n 0, 1) := by decide +kernel
theorem dX1_seek_21 : decode cX1_seek 21 = .ok (.getfield 117, 3) := by decide +kernel
theorem dX1_seek_24 : decode cX1_seek 24 = .ok (.invokevirtual 108, 3) := by decide +kernel
theorem dX1_seek_27 : decode cX1_seek 27 = .ok (.ifCond .eq 23, 3) := by decide +kernel
theorem dX1_seek_30 : decode cX1_seek 30 = .ok (.aload_n 0, 1) := by decide +kernel
theorem dX1_seek_31 : decode cX1_seek 31 = .ok (.dup, 1) := by decide +kernel
theorem dX1_seek_32 : decode cX1_seek 32 = .ok (.getfield 111, 3) := by decide +kernel
theorem dX1_seek_35 : decode cX1_seek 35 = .ok (.iconst 1, 1) := by decide +kernel
theorem dX1_seek_36 : decode cX1_seek 36 = .ok (.iadd, 1) := by decide +kernel
theorem dX1_seek_37 : decode cX1_seek 37 = .ok (.putfield 111, 3) := by decide +kernel
theorem dX1_seek_40 : decode cX1_seek 40 = .ok (.aload_n 0, 1) := by decide +kernel
theorem dX1_seek_41 : decode cX1_seek 41 = .ok (.aload_n 0, 1) := by decide +kernel
theorem dX1_seek_42 : decode cX1_seek 42 = .ok (.getfield 117, 3) := by decide +kernel
theorem dX1_seek_45 : decode cX1_seek 45 = .ok (.iconst 1, 1) := by decide +kernel
theorem dX1_seek_46 : decode cX1_seek 46 = .ok (.iadd, 1) := by decide +kernel
theorem dX1_seek_47 : decode cX1_seek 47 = .ok (.putfield 114, 3) := by decide +kernel
theorem dX1_seek_50 : decode cX1_seek 50 = .ok (.aload_n 0, 1) := by decide +kernel
theorem dX1_seek_51 : decode cX1_seek 51 = .ok (.dup, 1) := by decide +kernel
theorem dX1_seek_52 : decode cX1_seek 52 = .ok (.getfield 117, 3) := by decide +kernel
theorem dX1_seek_55 : decode cX1_seek 55 = .ok (.iconst 1, 1) := by decide +kernel
theorem dX1_seek_56 : decode cX1_seek 56 = .ok (.iadd, 1) := by decide +kernel
theorem dX1_seek_57 : decode cX1_seek 57 = .ok (.putfield 117, 3) := by decide +kernel
theorem dX1_seek_60 : decode cX1_seek 60 = .ok (.goto (-60), 3) := by decide +kernel
theorem dX1_seek_63 : decode cX1_seek 63 = .ok (.return_, 1) := by decide +kernel
def EX1_endsLine : List (Nat × Nat) := []
def EX1_rewind : List (Nat × Nat) := [(3, 14), (3, 15), (3, 16)]
def EX1_seek : List (Nat × Nat) := [(3, 14), (3, 15), (3, 16)]
set_option maxHeartbeats 4000000 in
set_option maxRecDepth 20000 in
theorem uX1_endsLine (l : Launch) (dC : Nat → ClassId) (dI : Nat → Nat → Nat) (ca : Nat → ClassId) (base : Nat) (B : jF) (hB : jBok B) (hAp : jAp (dC, dI)) (hB3 : ∀ n G a H, B 3 n G a H ↔ jOb (dC, dI) 3 17 (F3 n G) a H) (hB101 : ∀ n G a H, B 101 n G a H ↔ jAr (dC, dI) (ca 1) (fun j z => True) n a H) (G0 : jT) (H0 : Heap) (r0 : Nat) (a1 : Int32) (n0 : Nat) (pl : Int32) : Met l yX1_endsLine (jw yX1_endsLine cX1_endsLine 3 (some .boolean)) ({ frames := 0, cells := 0, slots := 0, locals := 0 }) (va_Pc [.ref r0, .int a1] (fun U => U.heap = H0 ∧ jX B base G0 [] H0 ∧ jG dC dI ca base U ∧ G0 r0 = some (3, n0) ∧ jP (dC, dI) G0 H0 [(r0, 3, 3, .int pl)] ∧ 0 ≤ a1.toInt ∧ a1.toInt < pl.toInt ∧ pl.toInt ≤ 1500)) (va_Qi (S := Unit) (fun r u => (r = 0 ∨ r = 1) ∧ (True)) (fun u t => jRt (dC, dI) B base G0 EX1_endsLine H0 [] t.heap) (jA base)) 0 0 (jA base) := by
  refine Met.ofW (cc := cX1_endsLine) (maxL := 3) (ret := (some .boolean)) (by decide) rfl ?_
  intro p e s m args below meth c s₁ Bd hml hv
  obtain ⟨rfl, hH0, hX, hG, hg_r0, hP0, hp0, hp1, hp2⟩ := hv
  have hK := hG.1
  have hx := Bd.exec
  have hb := Bd.bytes
  have hr := Bd.returns
  have hts := atoms_spec (ws := (jw yX1_endsLine cX1_endsLine 3 (some .boolean))) Bd.pre
  have htw : ∀ w ∈ jWl, w.before _ s = true := fun w h => hts w (List.mem_cons_of_mem _ h)
  have hown : s.vm.findClass RX1 = some m.cls := findClass_of_methodNamed Bd.named
  have hlocks := Bd.notSynchronized
  obtain ⟨Q, hQ⟩ : ∃ Q, Q = MQ below (va_Qi (S := Unit) (fun r u => (r = 0 ∨ r = 1) ∧ (True)) (fun u t => jRt (dC, dI) B base G0 EX1_endsLine H0 [] t.heap) (jA base)) ([.ref r0, .int a1] : List Value).toArray s 0 0 (jA base) := ⟨_, rfl⟩
  rw [← hQ]
  have hl := lv_entry ([.ref r0, .int a1]) (n := 3) (Nat.le_of_ble_eq_true rfl)
  rw [lg_entry_eq]
  generalize (lg_sl ([.ref r0, .int a1]) ++ List.replicate (3 - (lg_sl ([.ref r0, .int a1])).length) Slot.unset).toArray = ls at hl ⊢
  have hl : lv_has ls 3 [(0, .ref r0), (1, .int a1)] := hl
  generalize hR : (headSpec (jw yX1_endsLine cX1_endsLine 3 (some .boolean)) ({ frames := 0, cells := 0, slots := 0, locals := 0 })).room = R
  subst hH0
  have hh : jSt (dC, dI) B base G0 G0 EX1_endsLine s.heap 0 0 [(r0, 3, 3, .int pl)] [] [] s.heap [] := jSt.start hX hP0 jMc.nil jIs.nil
  clear hX hP0
  have hk0 : (0 : Int32).toInt = 0 := by decide
  have hk1 : (1 : Int32).toInt = 1 := by decide
  have hk10 : (10 : Int32).toInt = 10 := by decide
  have hk13 : (13 : Int32).toInt = 13 := by decide
  have hly_3_2 := htw (u_lay RX1 TX1 2) (jWc_wsX10 _ (u_in_lay (by decide)))
  have hly_3_3 := htw (u_lay RX1 TX1 3) (jWc_wsX10 _ (u_in_lay (by decide)))
  have hlk_15 := (htw (.fieldLink RX1 15 "ProofServer$Document" "text" "[I") (jWr_10 _ (List.mem_of_getElem? (i := 6) rfl)))
  have hlk_42 := (htw (.fieldLink RX1 42 "ProofServer$Document" "length" "I") (jWr_29 _ (List.mem_of_getElem? (i := 5) rfl)))
  have hrg_a1 := jb_rng a1
  refine lv_aload_n hx hb dX1_endsLine_0 rfl (lv_at hl 0 rfl) ?_
  obtain ⟨v_1, hv_1, hh_2⟩ := hh.pin (C := RX1) (T := TX1) (N := 17) hB3 rfl (by decide) hg_r0 (i := 2) (by decide) rfl
  clear hh
  obtain ⟨text_3, rfl, hg_text_3⟩ := hv_1
  refine j7_read hx hb hown hK (C := RX1) (T := TX1) (N := 17) rfl hly_3_2 hlk_15 (hh_2.at 0 rfl) dX1_endsLine_1 ?_
  refine lv_iload_n hx hb dX1_endsLine_4 rfl (lv_at hl 1 rfl) ?_
  refine j7_iald hx hb hK hh_2 hB101 1 rfl (by decide) hg_text_3 (x := a1.toInt) (rfl) (by omega) dX1_endsLine_5 (fun z_4 (hz_4 : True) => ?_)
  refine lv_bipush (v := 13) hx hb dX1_endsLine_6 (by decide) ?_
  have C16 : ∀ (w0_5 : Int32) (H_5 : Heap) (locs_5 : List Loc), jSt (dC, dI) B base G0 G0 EX1_endsLine s.heap 0 0 [(r0, 3, 2, .ref text_3), (r0, 3, 3, .int pl)] [] [] H_5 locs_5 → (w0_5 = 0 ∨ w0_5 = 1) → (True) → ∀ ls : Array Slot, lv_has ls 3 [(0, .ref r0), (1, .int a1)] → W p l e R s m ([.ref r0, .int a1] : List Value).toArray below meth c H_5 locs_5 0 0 Q (F0 m 16 ls [.int w0_5]) := by
    intro w0_5 H_5 locs_5 hh_5 hb_w0_5 hi_5 ls hl
    have hb_w0_5' := jb_01 hb_w0_5
    refine lv_istore_n (lv' := [(2, .int w0_5), (0, .ref r0), (1, .int a1)]) hx hb dX1_endsLine_16 rfl hl (by decide) rfl (fun ls hl => ?_)
    refine lv_aload_n hx hb dX1_endsLine_17 rfl (lv_at hl 1 rfl) ?_
    refine j7_read hx hb hown hK (C := RX1) (T := TX1) (N := 17) rfl hly_3_2 hlk_15 (hh_5.at 0 rfl) dX1_endsLine_18 ?_
    refine lv_iload_n hx hb dX1_endsLine_21 rfl (lv_at hl 2 rfl) ?_
    refine j7_iald hx hb hK hh_5 hB101 1 rfl (by decide) hg_text_3 (x := a1.toInt) (rfl) (by omega) dX1_endsLine_22 (fun z_6 (hz_6 : True) => ?_)
    refine lv_bipush (v := 10) hx hb dX1_endsLine_23 (by decide) ?_
    refine lv_icmp_eq (tgt := 55) hx hb dX1_endsLine_25 (by decide) (fun c_7 => ?_) (fun c_7 => ?_)
    · skip
      have c_7' : z_6.toInt = 10 := jb_eq (rfl) ((by decide)) c_7
      refine lv_iconst (v := 1) hx hb dX1_endsLine_55 (by decide) ?_
      refine lv_goto (tgt := 60) hx hb dX1_endsLine_56 (by decide) ?_
      rw [hQ]
      exact W.zret (v := 1) hx hb hr (jb_nz (Or.inr rfl)) (fun t ht hW => ⟨⟨1, (), rfl, ⟨(Or.inr rfl), trivial⟩, hh_5.rt (M1 := []) [] rfl ht⟩, by rw [ht]; try exact hh_5.1.1, fun q h9 hq => by rw [ht]; try exact hh_5.1.2.1 q h9 hq⟩) hh_5.1.2.2 dX1_endsLine_60
    · skip
      have c_7' : z_6.toInt ≠ 10 := jb_eq_n (rfl) ((by decide)) c_7
      refine lv_iload_n hx hb dX1_endsLine_28 rfl (lv_at hl 0 rfl) ?_
      refine lv_if_eq (tgt := 59) hx hb dX1_endsLine_29 (by decide) (fun c_8 => ?_) (fun c_8 => ?_)
      · skip
        have c_8' : w0_5.toInt = 0 := jb_eq (rfl) ((by decide)) c_8
        refine lv_iconst (v := 0) hx hb dX1_endsLine_59 (by decide) ?_
        rw [hQ]
        exact W.zret (v := 0) hx hb hr (jb_nz (Or.inl rfl)) (fun t ht hW => ⟨⟨0, (), rfl, ⟨(Or.inl rfl), trivial⟩, hh_5.rt (M1 := []) [] rfl ht⟩, by rw [ht]; try exact hh_5.1.1, fun q h9 hq => by rw [ht]; try exact hh_5.1.2.1 q h9 hq⟩) hh_5.1.2.2 dX1_endsLine_60
      · skip
        have c_8' : w0_5.toInt ≠ 0 := jb_eq_n (rfl) ((by decide)) c_8
        refine lv_iload_n hx hb dX1_endsLine_32 rfl (lv_at hl 2 rfl) ?_
        refine lv_iconst (v := 1) hx hb dX1_endsLine_33 (by decide) ?_
        refine lv_iadd hx hb dX1_endsLine_34 ?_
        refine lv_topi (fun z_9 ez_9 => ?_)
        have hz_9 : z_9.toInt = a1.toInt + 1 := by rw [ez_9]; exact jb_iadd2 (rfl) ((by decide)) (by omega)
        refine lv_aload_n hx hb dX1_endsLine_35 rfl (lv_at hl 1 rfl) ?_
        refine j7_read hx hb hown hK (C := RX1) (T := TX1) (N := 17) rfl hly_3_3 hlk_42 (hh_5.at 1 rfl) dX1_endsLine_36 ?_
        refine lv_icmp_ge (tgt := 55) hx hb dX1_endsLine_39 (by decide) (fun c_10 => ?_) (fun c_10 => ?_)
        · skip
          have c_10' : z_9.toInt ≥ pl.toInt := jb_ge (rfl) (rfl) c_10
          refine lv_iconst (v := 1) hx hb dX1_endsLine_55 (by decide) ?_
          refine lv_goto (tgt := 60) hx hb dX1_endsLine_56 (by decide) ?_
          rw [hQ]
          exact W.zret (v := 1) hx hb hr (jb_nz (Or.inr rfl)) (fun t ht hW => ⟨⟨1, (), rfl, ⟨(Or.inr rfl), trivial⟩, hh_5.rt (M1 := []) [] rfl ht⟩, by rw [ht]; try exact hh_5.1.1, fun q h9 hq => by rw [ht]; try exact hh_5.1.2.1 q h9 hq⟩) hh_5.1.2.2 dX1_endsLine_60
        · skip
          have c_10' : z_9.toInt < pl.toInt := jb_ge_n (rfl) (rfl) c_10
          refine lv_aload_n hx hb dX1_endsLine_42 rfl (lv_at hl 1 rfl) ?_
          refine j7_read hx hb hown hK (C := RX1) (T := TX1) (N := 17) rfl hly_3_2 hlk_15 (hh_5.at 0 rfl) dX1_endsLine_43 ?_
          refine lv_iload_n hx hb dX1_endsLine_46 rfl (lv_at hl 2 rfl) ?_
          refine lv_iconst (v := 1) hx hb dX1_endsLine_47 (by decide) ?_
          refine lv_iadd hx hb dX1_endsLine_48 ?_
          refine lv_topi (fun z_11 ez_11 => ?_)
          have hz_11 : z_11.toInt = a1.toInt + 1 := by rw [ez_11]; exact jb_iadd2 (rfl) ((by decide)) (by omega)
          refine j7_iald hx hb hK hh_5 hB101 1 rfl (by decide) hg_text_3 (x := z_11.toInt) (rfl) (by omega) dX1_endsLine_49 (fun z_12 (hz_12 : True) => ?_)
          refine lv_bipush (v := 10) hx hb dX1_endsLine_50 (by decide) ?_
          refine lv_icmp_eq (tgt := 59) hx hb dX1_endsLine_52 (by decide) (fun c_13 => ?_) (fun c_13 => ?_)
          · skip
            have c_13' : z_12.toInt = 10 := jb_eq (rfl) ((by decide)) c_13
            refine lv_iconst (v := 0) hx hb dX1_endsLine_59 (by decide) ?_
            rw [hQ]
            exact W.zret (v := 0) hx hb hr (jb_nz (Or.inl rfl)) (fun t ht hW => ⟨⟨0, (), rfl, ⟨(Or.inl rfl), trivial⟩, hh_5.rt (M1 := []) [] rfl ht⟩, by rw [ht]; try exact hh_5.1.1, fun q h9 hq => by rw [ht]; try exact hh_5.1.2.1 q h9 hq⟩) hh_5.1.2.2 dX1_endsLine_60
          · skip
            have c_13' : z_12.toInt ≠ 10 := jb_eq_n (rfl) ((by decide)) c_13
            refine lv_iconst (v := 1) hx hb dX1_endsLine_55 (by decide) ?_
            refine lv_goto (tgt := 60) hx hb dX1_endsLine_56 (by decide) ?_
            rw [hQ]
            exact W.zret (v := 1) hx hb hr (jb_nz (Or.inr rfl)) (fun t ht hW => ⟨⟨1, (), rfl, ⟨(Or.inr rfl), trivial⟩, hh_5.rt (M1 := []) [] rfl ht⟩, by rw [ht]; try exact hh_5.1.1, fun q h9 hq => by rw [ht]; try exact hh_5.1.2.1 q h9 hq⟩) hh_5.1.2.2 dX1_endsLine_60
  refine lv_icmp_ne (tgt := 15) hx hb dX1_endsLine_8 (by decide) (fun c_14 => ?_) (fun c_14 => ?_)
  · skip
    have c_14' : z_4.toInt ≠ 13 := jb_ne (rfl) ((by decide)) c_14
    refine lv_iconst (v := 0) hx hb dX1_endsLine_15 (by decide) ?_
    exact C16 0 _ _ hh_2 (Or.inl rfl) (trivial) _ (lv_sub hl [0, 1] rfl)
  · skip
    have c_14' : z_4.toInt = 13 := jb_ne_n (rfl) ((by decide)) c_14
    refine lv_iconst (v := 1) hx hb dX1_endsLine_11 (by decide) ?_
    refine lv_goto (tgt := 16) hx hb dX1_endsLine_12 (by decide) ?_
    exact C16 1 _ _ hh_2 (Or.inr rfl) (trivial) _ (lv_sub hl [0, 1] rfl)
set_option maxHeartbeats 4000000 in
set_option maxRecDepth 20000 in
theorem uX1_rewind (l : Launch) (dC : Nat → ClassId) (dI : Nat → Nat → Nat) (ca : Nat → ClassId) (base : Nat) (B : jF) (hB : jBok B) (hAp : jAp (dC, dI)) (hB3 : ∀ n G a H, B 3 n G a H ↔ jOb (dC, dI) 3 17 (F3 n G) a H) (G0 : jT) (H0 : Heap) (r0 : Nat) : Met l yX1_rewind (jw yX1_rewind cX1_rewind 1 none) ({ frames := 0, cells := 0, slots := 0, locals := 0 }) (va_Pc [.ref r0] (fun U => U.heap = H0 ∧ jX B base G0 [] H0 ∧ jG dC dI ca base U ∧ G0 r0 = some (3, 0) ∧ jP (dC, dI) G0 H0 [] ∧ True)) (va_Qv (S := Unit) (fun u => True) (fun u t => jRt (dC, dI) B base G0 EX1_rewind H0 [] t.heap) (jA base)) 0 0 (jA base) := by
  refine Met.ofW (cc := cX1_rewind) (maxL := 1) (ret := none) (by decide) rfl ?_
  intro p e s m args below meth c s₁ Bd hml hv
  obtain ⟨rfl, hH0, hX, hG, hg_r0, hP0, hp0⟩ := hv
  have hK := hG.1
  have hx := Bd.exec
  have hb := Bd.bytes
  have hr := Bd.returns
  have hts := atoms_spec (ws := (jw yX1_rewind cX1_rewind 1 none)) Bd.pre
  have htw : ∀ w ∈ jWl, w.before _ s = true := fun w h => hts w (List.mem_cons_of_mem _ h)
  have hown : s.vm.findClass RX1 = some m.cls := findClass_of_methodNamed Bd.named
  have hlocks := Bd.notSynchronized
  obtain ⟨Q, hQ⟩ : ∃ Q, Q = MQ below (va_Qv (S := Unit) (fun u => True) (fun u t => jRt (dC, dI) B base G0 EX1_rewind H0 [] t.heap) (jA base)) ([.ref r0] : List Value).toArray s 0 0 (jA base) := ⟨_, rfl⟩
  rw [← hQ]
  have hl := lv_entry ([.ref r0]) (n := 1) (Nat.le_of_ble_eq_true rfl)
  rw [lg_entry_eq]
  generalize (lg_sl ([.ref r0]) ++ List.replicate (1 - (lg_sl ([.ref r0])).length) Slot.unset).toArray = ls at hl ⊢
  have hl : lv_has ls 1 [(0, .ref r0)] := hl
  generalize hR : (headSpec (jw yX1_rewind cX1_rewind 1 none) ({ frames := 0, cells := 0, slots := 0, locals := 0 })).room = R
  subst hH0
  have hh : jSt (dC, dI) B base G0 G0 EX1_rewind s.heap 0 0 [] [] [] s.heap [] := jSt.start hX hP0 jMc.nil jIs.nil
  clear hX hP0
  have hk0 : (0 : Int32).toInt = 0 := by decide
  have hk1 : (1 : Int32).toInt = 1 := by decide
  have hly_3_14 := htw (u_lay RX1 TX1 14) (jWc_wsX10 _ (u_in_lay (by decide)))
  have hly_3_15 := htw (u_lay RX1 TX1 15) (jWc_wsX10 _ (u_in_lay (by decide)))
  have hly_3_16 := htw (u_lay RX1 TX1 16) (jWc_wsX10 _ (u_in_lay (by decide)))
  have hlk_111 := (htw (.fieldLink RX1 111 "ProofServer$Document" "line" "I") (jWr_40 _ (List.mem_of_getElem? (i := 6) rfl)))
  have hlk_114 := (htw (.fieldLink RX1 114 "ProofServer$Document" "lineStart" "I") (jWr_40 _ (List.mem_of_getElem? (i := 7) rfl)))
  have hlk_117 := (htw (.fieldLink RX1 117 "ProofServer$Document" "cursor" "I") (jWr_40 _ (List.mem_of_getElem? (i := 8) rfl)))
  refine lv_aload_n hx hb dX1_rewind_0 rfl (lv_at hl 0 rfl) ?_
  refine lv_iconst (v := 0) hx hb dX1_rewind_1 (by decide) ?_
  refine j7_put hx hb hown hK hh hB hAp hB3 (C := RX1) (T := TX1) (N := 17) rfl (by decide) hg_r0 (i := 14) (by decide) hly_3_14 rfl hlk_111 rfl (ty := .int) (v := .int 0) (by decide +kernel) rfl rfl (⟨_, rfl⟩) rfl (L1 := []) [] rfl rfl rfl dX1_rewind_2 (fun H_1 locs_1 hh_1 => ?_)
  clear hh
  refine lv_aload_n hx hb dX1_rewind_5 rfl (lv_at hl 0 rfl) ?_
  refine lv_iconst (v := 0) hx hb dX1_rewind_6 (by decide) ?_
  refine j7_put hx hb hown hK hh_1 hB hAp hB3 (C := RX1) (T := TX1) (N := 17) rfl (by decide) hg_r0 (i := 15) (by decide) hly_3_15 rfl hlk_114 rfl (ty := .int) (v := .int 0) (by decide +kernel) rfl rfl (⟨_, rfl⟩) rfl (L1 := [(r0, 3, 14, .int 0)]) [0] rfl rfl rfl dX1_rewind_7 (fun H_2 locs_2 hh_2 => ?_)
  clear hh_1
  refine lv_aload_n hx hb dX1_rewind_10 rfl (lv_at hl 0 rfl) ?_
  refine lv_iconst (v := 0) hx hb dX1_rewind_11 (by decide) ?_
  refine j7_put hx hb hown hK hh_2 hB hAp hB3 (C := RX1) (T := TX1) (N := 17) rfl (by decide) hg_r0 (i := 16) (by decide) hly_3_16 rfl hlk_117 rfl (ty := .int) (v := .int 0) (by decide +kernel) rfl rfl (⟨_, rfl, by omega, by omega⟩) rfl (L1 := [(r0, 3, 15, .int 0), (r0, 3, 14, .int 0)]) [0, 1] rfl rfl rfl dX1_rewind_12 (fun H_3 locs_3 hh_3 => ?_)
  clear hh_2
  rw [hQ]
  exact W.vret hx hb hr (fun t ht hW => ⟨⟨(), rfl, trivial, hh_3.rt (M1 := []) [] rfl ht⟩, by rw [ht]; try exact hh_3.1.1, fun q h9 hq => by rw [ht]; try exact hh_3.1.2.1 q h9 hq⟩) hh_3.1.2.2 dX1_rewind_15
set_option maxHeartbeats 4000000 in
set_option maxRecDepth 20000 in
theorem uX1_seek (l : Launch) (dC : Nat → ClassId) (dI : Nat → Nat → Nat) (ca : Nat → ClassId) (base : Nat) (B : jF) (hB : jBok B) (hAp : jAp (dC, dI)) (hB3 : ∀ n G a H, B 3 n G a H ↔ jOb (dC, dI) 3 17 (F3 n G) a H) (hB101 : ∀ n G a H, B 101 n G a H ↔ jAr (dC, dI) (ca 1) (fun j z => True) n a H) (G0 : jT) (H0 : Heap) (r0 : Nat) (a1 : Int32) (n0 : Nat) : Met l yX1_seek (jw yX1_seek cX1_seek 2 none) ({ frames := 1, cells := 0, slots := 0, locals := 22 }) (va_Pc [.ref r0, .int a1] (fun U => U.heap = H0 ∧ jX B base G0 [] H0 ∧ jG dC dI ca base U ∧ G0 r0 = some (3, n0) ∧ jP (dC, dI) G0 H0 [] ∧ True)) (va_Qv (S := Unit) (fun u => True) (fun u t => jRt (dC, dI) B base G0 EX1_seek H0 [] t.heap) (jA base)) 0 0 (jA base) := by
  refine Met.ofW (cc := cX1_seek) (maxL := 2) (ret := none) (by decide) rfl ?_
  intro p e s m args below meth c s₁ Bd hml hv
  obtain ⟨rfl, hH0, hX, hG, hg_r0, hP0, hp0⟩ := hv
  have hK := hG.1
  have hx := Bd.exec
  have hb := Bd.bytes
  have hr := Bd.returns
  have hts := atoms_spec (ws := (jw yX1_seek cX1_seek 2 none)) Bd.pre
  have htw : ∀ w ∈ jWl, w.before _ s = true := fun w h => hts w (List.mem_cons_of_mem _ h)
  have hown : s.vm.findClass RX1 = some m.cls := findClass_of_methodNamed Bd.named
  have hlocks := Bd.notSynchronized
  obtain ⟨Q, hQ⟩ : ∃ Q, Q = MQ below (va_Qv (S := Unit) (fun u => True) (fun u t => jRt (dC, dI) B base G0 EX1_seek H0 [] t.heap) (jA base)) ([.ref r0, .int a1] : List Value).toArray s 0 0 (jA base) := ⟨_, rfl⟩
  rw [← hQ]
  have hl := lv_entry ([.ref r0, .int a1]) (n := 2) (Nat.le_of_ble_eq_true rfl)
  rw [lg_entry_eq]
  generalize (lg_sl ([.ref r0, .int a1]) ++ List.replicate (2 - (lg_sl ([.ref r0, .int a1])).length) Slot.unset).toArray = ls at hl ⊢
  have hl : lv_has ls 2 [(0, .ref r0), (1, .int a1)] := hl
  generalize hR : (headSpec (jw yX1_seek cX1_seek 2 none) ({ frames := 1, cells := 0, slots := 0, locals := 22 })).room = R
  subst hH0
  have hh : jSt (dC, dI) B base G0 G0 EX1_seek s.heap 0 0 [] [] [] s.heap [] := jSt.start hX hP0 jMc.nil jIs.nil
  clear hX hP0
  have hk0 : (0 : Int32).toInt = 0 := by decide
  have hk1 : (1 : Int32).toInt = 1 := by decide
  have hly_3_3 := htw (u_lay RX1 TX1 3) (jWc_wsX10 _ (u_in_lay (by decide)))
  have hly_3_14 := htw (u_lay RX1 TX1 14) (jWc_wsX10 _ (u_in_lay (by decide)))
  have hly_3_15 := htw (u_lay RX1 TX1 15) (jWc_wsX10 _ (u_in_lay (by decide)))
  have hly_3_16 := htw (u_lay RX1 TX1 16) (jWc_wsX10 _ (u_in_lay (by decide)))
  have hlk_117 := (htw (.fieldLink RX1 117 "ProofServer$Document" "cursor" "I") (jWr_40 _ (List.mem_of_getElem? (i := 8) rfl)))
  have hlk_42 := (htw (.fieldLink RX1 42 "ProofServer$Document" "length" "I") (jWr_29 _ (List.mem_of_getElem? (i := 5) rfl)))
  have hlk_111 := (htw (.fieldLink RX1 111 "ProofServer$Document" "line" "I") (jWr_40 _ (List.mem_of_getElem? (i := 6) rfl)))
  have hlk_114 := (htw (.fieldLink RX1 114 "ProofServer$Document" "lineStart" "I") (jWr_40 _ (List.mem_of_getElem? (i := 7) rfl)))
  have hrg_a1 := jb_rng a1
  obtain ⟨v_1, hv_1, hh_2⟩ := hh.pin (C := RX1) (T := TX1) (N := 17) hB3 rfl (by decide) hg_r0 (i := 3) (by decide) rfl
  obtain ⟨length_3, rfl, hlolength_3, hhilength_3⟩ := hv_1
  have L0 : ∀ (N : Nat) (wc_4 : Int32) (H_4 : Heap) (locs_4 : List Loc), jSt (dC, dI) B base G0 G0 EX1_seek s.heap 0 0 [(r0, 3, 16, .int wc_4), (r0, 3, 3, .int length_3)] [] [] H_4 locs_4 → (0 ≤ wc_4.toInt ∧ wc_4.toInt ≤ 1500) → (((length_3.toInt - wc_4.toInt).toNat : Int) : Int) < N → ∀ ls : Array Slot, lv_has ls 2 [(0, .ref r0), (1, .int a1)] → W p l e R s m ([.ref r0, .int a1] : List Value).toArray below meth c H_4 locs_4 0 0 Q (F0 m 0 ls []) := by
    intro N
    induction N with
    | zero => intro wc_4 H_4 locs_4 hh_4  hi_4 hm; exact absurd hm (by omega)
    | succ N L0 =>
      intro wc_4 H_4 locs_4 hh_4  hi_4 hm_4 ls hl
      obtain ⟨hi_4_0, hi_4_1⟩ := hi_4
      refine lv_aload_n hx hb dX1_seek_0 rfl (lv_at hl 0 rfl) ?_
      refine j7_read hx hb hown hK (C := RX1) (T := TX1) (N := 17) rfl hly_3_16 hlk_117 (hh_4.at 0 rfl) dX1_seek_1 ?_
      refine lv_iload_n hx hb dX1_seek_4 rfl (lv_at hl 1 rfl) ?_
      refine lv_icmp_ge (tgt := 63) hx hb dX1_seek_5 (by decide) (fun c_5 => ?_) (fun c_5 => ?_)
      · skip
        have c_5' : wc_4.toInt ≥ a1.toInt := jb_ge (rfl) (rfl) c_5
        rw [hQ]
        exact W.vret hx hb hr (fun t ht hW => ⟨⟨(), rfl, trivial, hh_4.rt (M1 := []) [] rfl ht⟩, by rw [ht]; try exact hh_4.1.1, fun q h9 hq => by rw [ht]; try exact hh_4.1.2.1 q h9 hq⟩) hh_4.1.2.2 dX1_seek_63
      · skip
        have c_5' : wc_4.toInt < a1.toInt := jb_ge_n (rfl) (rfl) c_5
        refine lv_aload_n hx hb dX1_seek_8 rfl (lv_at hl 0 rfl) ?_
        refine j7_read hx hb hown hK (C := RX1) (T := TX1) (N := 17) rfl hly_3_16 hlk_117 (hh_4.at 0 rfl) dX1_seek_9 ?_
        refine lv_aload_n hx hb dX1_seek_12 rfl (lv_at hl 0 rfl) ?_
        refine j7_read hx hb hown hK (C := RX1) (T := TX1) (N := 17) rfl hly_3_3 hlk_42 (hh_4.at 1 rfl) dX1_seek_13 ?_
        refine lv_icmp_ge (tgt := 63) hx hb dX1_seek_16 (by decide) (fun c_6 => ?_) (fun c_6 => ?_)
        · skip
          have c_6' : wc_4.toInt ≥ length_3.toInt := jb_ge (rfl) (rfl) c_6
          rw [hQ]
          exact W.vret hx hb hr (fun t ht hW => ⟨⟨(), rfl, trivial, hh_4.rt (M1 := []) [] rfl ht⟩, by rw [ht]; try exact hh_4.1.1, fun q h9 hq => by rw [ht]; try exact hh_4.1.2.1 q h9 hq⟩) hh_4.1.2.2 dX1_seek_63
        · skip
          have c_6' : wc_4.toInt < length_3.toInt := jb_ge_n (rfl) (rfl) c_6
          refine lv_aload_n hx hb dX1_seek_19 rfl (lv_at hl 0 rfl) ?_
          refine lv_aload_n hx hb dX1_seek_20 rfl (lv_at hl 0 rfl) ?_
          refine j7_read hx hb hown hK (C := RX1) (T := TX1) (N := 17) rfl hly_3_16 hlk_117 (hh_4.at 0 rfl) dX1_seek_21 ?_
          refine va_calli (A0 := jA base) (H0 := s.heap) (va_runV (As := [.int wc_4]) (rest := []) ⟨hx, hb, hml, hown, hts⟩ (uX1_endsLine l dC dI ca base B hB hAp hB3 hB101 G0 H_4 r0 wc_4 n0 length_3) (cwV 1 hts (jgV (jWr_29 _ (List.mem_of_getElem? (i := 6) rfl)) (jWr_29 _ (List.mem_of_getElem? (i := 7) rfl)) (jWr_29 _ (List.mem_of_getElem? (i := 8) rfl)) (jWr_2 _ (List.mem_of_getElem? (i := 21) rfl)) (jWr_29 _ (List.mem_of_getElem? (i := 9) rfl))) rfl rfl rfl (by decide +kernel) ⟨by rw [← hR]; exact Nat.le_of_ble_eq_true rfl, by rw [← hR]; exact Nat.le_of_ble_eq_true rfl⟩) ⟨fun a U g mk q => by obtain ⟨q0, q1, q2, qK, q10, q11, q12⟩ := q; exact ⟨q0, q1, q2, jG.calling g mk a qK, q10, q11, q12⟩, hh_4.recv (C := RX1) (T := TX1) (N := 17) hB3 rfl (by decide) hg_r0 hK, fun U hU hW => ⟨rfl, hU, hh_4.2.1, hG.step hW hU hh_4.1, hg_r0, (hh_4.2.2.1.sub (L1 := [(r0, 3, 3, .int length_3)]) [1] rfl), by first | omega | (refine ⟨?_, ?_, ?_⟩ <;> (first | omega | rfl | assumption | decide | exact Or.inl rfl | exact Or.inr rfl | (simp only; omega)))⟩⟩ rfl rfl hl.1 rfl (lv_room (Nat.le_of_ble_eq_true rfl)) dX1_seek_24 ⟨Nat.zero_le _, Nat.zero_le _⟩) hh_4.1 (fun q _ h => h) (fun q h => h) (fun r_8 u_7 t_7 H_7 locs_7 ht_7 hvm_7 hr_8 hb_7 hz_7 hk_7 hS_7 => ?_)
          rw [ht_7] at hb_7
          obtain ⟨hb_71, hb_72, hb_73, hb_74, hb_75⟩ := hb_7
          have hh_7 : jSt (dC, dI) B base G0 G0 EX1_seek s.heap 0 0 [(r0, 3, 16, .int wc_4), (r0, 3, 3, .int length_3)] [] [] H_7 locs_7 := ((hh_4.call hb_71 hb_72 hb_73 hb_74 hS_7 rfl (L1 := [(r0, 3, 16, .int wc_4), (r0, 3, 3, .int length_3)]) [0, 1] rfl rfl (M1 := []) [] rfl rfl (I1 := []) [] rfl rfl).more hb_75)
          clear hh_4 ht_7 hvm_7 hz_7 hk_7 hS_7 hb_71 hb_72 hb_73 hb_74 hb_75
          obtain ⟨hr_8b, hr_8p⟩ := hr_8
          have hr_8' := jb_01 hr_8b
          refine lv_if_eq (tgt := 50) hx hb dX1_seek_27 (by decide) (fun c_9 => ?_) (fun c_9 => ?_)
          · skip
            have c_9' : r_8.toInt = 0 := jb_eq (rfl) ((by decide)) c_9
            refine lv_aload_n hx hb dX1_seek_50 rfl (lv_at hl 0 rfl) ?_
            refine lv_dup hx hb dX1_seek_51 rfl ?_
            refine j7_read hx hb hown hK (C := RX1) (T := TX1) (N := 17) rfl hly_3_16 hlk_117 (hh_7.at 0 rfl) dX1_seek_52 ?_
            refine lv_iconst (v := 1) hx hb dX1_seek_55 (by decide) ?_
            refine lv_iadd hx hb dX1_seek_56 ?_
            refine lv_topi (fun z_10 ez_10 => ?_)
            have hz_10 : z_10.toInt = wc_4.toInt + 1 := by rw [ez_10]; exact jb_iadd2 (rfl) ((by decide)) (by omega)
            refine j7_put hx hb hown hK hh_7 hB hAp hB3 (C := RX1) (T := TX1) (N := 17) rfl (by decide) hg_r0 (i := 16) (by decide) hly_3_16 rfl hlk_117 rfl (ty := .int) (v := .int z_10) (by decide +kernel) rfl rfl (⟨_, rfl, by omega, by omega⟩) rfl (L1 := [(r0, 3, 3, .int length_3)]) [1] rfl rfl rfl dX1_seek_57 (fun H_11 locs_11 hh_11 => ?_)
            clear hh_7
            refine lv_goto (tgt := 0) hx hb dX1_seek_60 (by decide) ?_
            exact L0 z_10 _ _ hh_11 (by first | omega | (refine ⟨?_, ?_⟩ <;> (first | omega | rfl | assumption | decide | exact Or.inl rfl | exact Or.inr rfl | (simp only; omega)))) (by omega) _ (lv_sub hl [0, 1] rfl)
          · skip
            have c_9' : r_8.toInt ≠ 0 := jb_eq_n (rfl) ((by decide)) c_9
            refine lv_aload_n hx hb dX1_seek_30 rfl (lv_at hl 0 rfl) ?_
            refine lv_dup hx hb dX1_seek_31 rfl ?_
            obtain ⟨v_12, hv_12, hh_13⟩ := hh_7.pin (C := RX1) (T := TX1) (N := 17) hB3 rfl (by decide) hg_r0 (i := 14) (by decide) rfl
            clear hh_7
            obtain ⟨line_14, rfl⟩ := hv_12
            refine j7_read hx hb hown hK (C := RX1) (T := TX1) (N := 17) rfl hly_3_14 hlk_111 (hh_13.at 0 rfl) dX1_seek_32 ?_
            refine lv_iconst (v := 1) hx hb dX1_seek_35 (by decide) ?_
            refine lv_iadd hx hb dX1_seek_36 ?_
            refine lv_topi (fun z_15 ez_15 => ?_)
            refine j7_put hx hb hown hK hh_13 hB hAp hB3 (C := RX1) (T := TX1) (N := 17) rfl (by decide) hg_r0 (i := 14) (by decide) hly_3_14 rfl hlk_111 rfl (ty := .int) (v := .int z_15) (by decide +kernel) rfl rfl (⟨_, rfl⟩) rfl (L1 := [(r0, 3, 16, .int wc_4), (r0, 3, 3, .int length_3)]) [1, 2] rfl rfl rfl dX1_seek_37 (fun H_16 locs_16 hh_16 => ?_)
            clear hh_13
            refine lv_aload_n hx hb dX1_seek_40 rfl (lv_at hl 0 rfl) ?_
            refine lv_aload_n hx hb dX1_seek_41 rfl (lv_at hl 0 rfl) ?_
            refine j7_read hx hb hown hK (C := RX1) (T := TX1) (N := 17) rfl hly_3_16 hlk_117 (hh_16.at 1 rfl) dX1_seek_42 ?_
            refine lv_iconst (v := 1) hx hb dX1_seek_45 (by decide) ?_
            refine lv_iadd hx hb dX1_seek_46 ?_
            refine lv_topi (fun z_17 ez_17 => ?_)
            have hz_17 : z_17.toInt = wc_4.toInt + 1 := by rw [ez_17]; exact jb_iadd2 (rfl) ((by decide)) (by omega)
            refine j7_put hx hb hown hK hh_16 hB hAp hB3 (C := RX1) (T := TX1) (N := 17) rfl (by decide) hg_r0 (i := 15) (by decide) hly_3_15 rfl hlk_114 rfl (ty := .int) (v := .int z_17) (by decide +kernel) rfl rfl (⟨_, rfl⟩) rfl (L1 := [(r0, 3, 14, .int z_15), (r0, 3, 16, .int wc_4), (r0, 3, 3, .int length_3)]) [0, 1, 2] rfl rfl rfl dX1_seek_47 (fun H_18 locs_18 hh_18 => ?_)
            clear hh_16
            refine lv_aload_n hx hb dX1_seek_50 rfl (lv_at hl 0 rfl) ?_
            refine lv_dup hx hb dX1_seek_51 rfl ?_
            refine j7_read hx hb hown hK (C := RX1) (T := TX1) (N := 17) rfl hly_3_16 hlk_117 (hh_18.at 2 rfl) dX1_seek_52 ?_
            refine lv_iconst (v := 1) hx hb dX1_seek_55 (by decide) ?_
            refine lv_iadd hx hb dX1_seek_56 ?_
            refine lv_topi (fun z_19 ez_19 => ?_)
            have hz_19 : z_19.toInt = wc_4.toInt + 1 := by rw [ez_19]; exact jb_iadd2 (rfl) ((by decide)) (by omega)
            refine j7_put hx hb hown hK hh_18 hB hAp hB3 (C := RX1) (T := TX1) (N := 17) rfl (by decide) hg_r0 (i := 16) (by decide) hly_3_16 rfl hlk_117 rfl (ty := .int) (v := .int z_19) (by decide +kernel) rfl rfl (⟨_, rfl, by omega, by omega⟩) rfl (L1 := [(r0, 3, 15, .int z_17), (r0, 3, 14, .int z_15), (r0, 3, 3, .int length_3)]) [0, 1, 3] rfl rfl rfl dX1_seek_57 (fun H_20 locs_20 hh_20 => ?_)
            clear hh_18
            refine lv_goto (tgt := 0) hx hb dX1_seek_60 (by decide) ?_
            exact L0 z_19 _ _ (hh_20.sub (L1 := [(r0, 3, 16, .int z_19), (r0, 3, 3, .int length_3)]) [0, 3] rfl (M1 := []) [] rfl (I1 := []) [] rfl) (by first | omega | (refine ⟨?_, ?_⟩ <;> (first | omega | rfl | assumption | decide | exact Or.inl rfl | exact Or.inr rfl | (simp only; omega)))) (by omega) _ (lv_sub hl [0, 1] rfl)
  obtain ⟨v_21, hv_21, hh_22⟩ := hh_2.pin (C := RX1) (T := TX1) (N := 17) hB3 rfl (by decide) hg_r0 (i := 16) (by decide) rfl
  obtain ⟨cursor_23, rfl, hlocursor_23, hhicursor_23⟩ := hv_21
  exact L0 (((length_3.toInt - (cursor_23 : Int32).toInt).toNat : Int) : Int).toNat.succ cursor_23 _ _ hh_22 (by first | omega | (refine ⟨?_, ?_⟩ <;> (first | omega | rfl | assumption | decide | exact Or.inl rfl | exact Or.inr rfl | (simp only; omega)))) (by omega) _ (lv_sub hl [0, 1] rfl)
end
section
def F14 (n : Nat) (G : jT) : List (Value → Prop) := [jRf G 101 40, jI 0 40, jIa, jRf G 101 1500, jI 0 1500, jI 0 40, jRf G 190 40, jRf G 191 40, jRf G 192 40, jI 0 40, jRf G 193 40]
end
section
-- new cells: an array of ints that is typed at once
section J11
variable {p : Program} {l : Launch} {e : Env} {R : Room} {s : State} {m : MethodId} {args : Array Value} {below : List Frame} {meth : Method} {c : Code} {H : Heap} {locs : List Loc} {cells slots : Nat} {Q : State → Prop}
variable {cc : ByteArray} {pc : Nat} {ls : Array Slot} {rest : List Value} {dC : Nat → ClassId} {dI : Nat → Nat → Nat} {ca : Nat → ClassId} {B : jF} {base : Nat} {G0 G : jT} {E : List (Nat × Nat)} {H0 : Heap} {zc zs : Nat} {L : List jPin} {M : List jCt} {I : List jIv} {k n : Nat} {P : Nat → Int32 → Prop} {cA : ClassId} {tys : List (ClassId × FieldType)}
theorem jf.lt {D : va_G} {k a i : Nat} {v : Value} {H : Heap} (h : jf D k a i v H) : a < H.size := by
  obtain ⟨r, -, -, cell, g, -⟩ := h
  exact (Array.getElem?_eq_some_iff.mp g).1
theorem jSt.new (hh : jSt (dC, dI) B base G0 G E H0 zc zs L M I H locs) (hB : jBok B) (hb0 : base ≤ H.size) {H1 : Heap} (hsz : H1.size = H.size + 1) (hfr : ∀ q, q < H.size → H1[q]? = H[q]?) {w : Nat} (hT : jTot H1 = jTot H + w) (hk : k < 1000) (hb : B k n (va_up G H.size (some (k, n))) H.size H1) : jSt (dC, dI) B base G0 (va_up G H.size (some (k, n))) E H0 (zc + 1) (zs + w) L M I H1 locs := by
  obtain ⟨h1, h2, h3, h4, h5, h6, h7, h8, h9⟩ := hh
  have hn := h2.fresh
  have hle : jLe G (va_up G H.size (some (k, n))) := jLe.new hn
  have key : ∀ kb b ib v, jf (dC, dI) kb b ib v H → jf (dC, dI) kb b ib v H1 := fun kb b ib v hf => hf.kept (hfr b hf.lt)
  have hX1 := (h2.grow hB (k, n) hb0 hsz hfr).cls (jUp_self) hb
  refine ⟨⟨by rw [hsz]; exact Nat.le_succ_of_le h1.1, fun q g1 g2 => (hfr q (Nat.lt_of_lt_of_le g1 h1.1)).trans (h1.2.1 q g1 g2), h1.2.2⟩, hX1, fun q hq => ?_, ⟨fun a kb nb ib v ha he hf => key kb a ib v (h4.1 a kb nb ib v ha he hf), fun a kb nb ha g1 g2 he => ?_⟩, h5.tr hle, by omega, by omega, fun q hq => ?_, fun q hq => ?_⟩
  · obtain ⟨⟨nq, g1⟩, g2⟩ := h3 q hq
    exact ⟨⟨nq, hle _ _ g1⟩, key _ _ _ _ g2⟩
  · exact (hfr a (h2.2 _ _ (h5 _ _ ha)).2).trans (h4.2 a kb nb ha g1 g2 he)
  · obtain ⟨g1, g2, g3, g4⟩ := h8 q hq
    exact ⟨hle _ _ g1, g2, g3, g4.kept (hfr _ (h2.2 _ _ g1).2)⟩
  · obtain ⟨g1, g2⟩ := h9 q hq
    have hag : ∀ Ha Hb, jAg (dC, dI) (va_up G H.size (some (k, n))) q.1 Ha Hb → jAg (dC, dI) G q.1 Ha Hb := fun Ha Hb hA => ⟨fun a kb nb ib v ha => hA.1 a kb nb ib v (hle _ _ ha), fun a kb nb ha => hA.2 a kb nb (hle _ _ ha)⟩
    refine ⟨g2 H H1 ⟨fun a kb nb ib v _ _ hf => key kb a ib v hf, fun a kb nb ha _ _ _ => hfr a (h2.2 _ _ ha).2⟩ g1, fun Ha Hb hA => g2 Ha Hb (hag Ha Hb hA)⟩
/-- what a method that makes cells leaves -/
def jRa (D : va_G) (B : jF) (base : Nat) (G0 G1 : jT) (E : List (Nat × Nat)) (H0 : Heap) (zc zs : Nat) (M : List jPin) (H1 : Heap) : Prop := jX B base G1 [] H1 ∧ jLe G0 G1 ∧ jKp D G0 E H0 H1 ∧ H1.size ≤ H0.size + zc ∧ jTot H1 ≤ jTot H0 + zs ∧ jP D G1 H1 M
theorem jSt.ra (hh : jSt (dC, dI) B base G0 G E H0 zc zs L M I H locs) {zc1 zs1 : Nat} (hc : zc ≤ zc1) (hs1 : zs ≤ zs1) {M1 : List jPin} (is : List Nat) (hs : is.map (fun i => L[i]?) = M1.map some) {t : State} (ht : t.heap = H) : jRa (dC, dI) B base G0 G E H0 zc1 zs1 M1 t.heap := by
  rw [ht]
  obtain ⟨h1, h2, h3, h4, h5, h6, h7, h8, h9⟩ := hh
  exact ⟨h2, h5, h4, by omega, by omega, h3.sub is hs⟩
end J11
end
section
def F4 (n : Nat) (G : jT) : List (Value → Prop) := [jRf G 100 3000, jI (-1) 3000, jIa, jIa, jZb, jIa, jI (-1) 3000, jI 0 3001, jIa, jZb, jIa, jI 0 40000]
end
section
-- formulas of the reference's kernel as rows of numbers: what a node is, its size, likeness, counting, putting in
abbrev jK : Type := (Nat → Int32) × (Nat → Int32) × (Nat → Int32) × (Nat → Int32) × (Nat → Int32) × (Nat → Int32)
abbrev jK.s (C : jK) : Nat → Int32 := C.1
abbrev jK.n (C : jK) : Nat → Int32 := C.2.1
abbrev jK.a (C : jK) : Nat → Int32 := C.2.2.1
abbrev jK.b (C : jK) : Nat → Int32 := C.2.2.2.1
abbrev jK.c (C : jK) : Nat → Int32 := C.2.2.2.2.1
abbrev jK.y (C : jK) : Nat → Int32 := C.2.2.2.2.2
abbrev jK.mk (s n a b c y : Nat → Int32) : jK := (s, n, a, b, c, y)
def jSo (f : Nat → Int32) (n : Int) : Int := (f n.toNat).toInt
def jPts (C : jK) (n : Int) : Int := if jSo C.s n = 7 ∨ jSo C.s n = 8 then jSo C.y (jSo C.n n) else if jSo C.s n ≤ 2 ∨ jSo C.s n = 6 then 2 else if jSo C.s n = 4 ∨ jSo C.s n = 5 then 1 else 0
def jPr (C : jK) (n k : Int) : Int := if k = 0 then jSo C.a n else if k = 1 then jSo C.b n else jSo C.c n
def jQf (C : jK) (n : Int) : Int := if jSo C.s n = 4 ∨ jSo C.s n = 5 then 1 else 0
/-- a node of a formula: N nodes, Y symbols, b names that are bound around it -/
def jNd (C : jK) (N Y b n : Int) : Prop := 0 ≤ n ∧ n < N ∧ 0 ≤ jSo C.s n ∧ jSo C.s n ≤ 10 ∧ (jSo C.s n = 7 ∨ jSo C.s n = 8 → 0 ≤ jSo C.n n ∧ jSo C.n n < Y) ∧ (jSo C.s n = 10 → 0 ≤ jSo C.n n ∧ jSo C.n n < b) ∧ (jSo C.s n = 9 ∨ jSo C.s n = 4 ∨ jSo C.s n = 5 → 0 ≤ jSo C.n n ∧ jSo C.n n ≤ 1599) ∧ 0 ≤ jPts C n ∧ jPts C n ≤ 3
def jFm (C : jK) (N Y : Int) : Nat → Int → Int → Prop
  | 0, _, _ => False
  | d + 1, b, n => jNd C N Y b n ∧ ∀ k : Int, 0 ≤ k → k < jPts C n → jFm C N Y d (b + jQf C n) (jPr C n k)
def jSzF (C : jK) : Nat → Int → Int
  | 0, _ => 0
  | d + 1, n => 1 + (if 0 < jPts C n then jSzF C d (jPr C n 0) else 0) + (if 1 < jPts C n then jSzF C d (jPr C n 1) else 0) + (if 2 < jPts C n then jSzF C d (jPr C n 2) else 0)
def jsz (C : jK) (n : Int) : Int := jSzF C 4000 n
/-- the size of a node and its first k parts -/
def jSzK (C : jK) (n k : Int) : Int := 1 + (if 0 < k then jsz C (jPr C n 0) else 0) + (if 1 < k then jsz C (jPr C n 1) else 0) + (if 2 < k then jsz C (jPr C n 2) else 0)
theorem jFm.nd {C : jK} {N Y b n : Int} {d : Nat} (h : jFm C N Y d b n) : jNd C N Y b n := by
  cases d with
  | zero => exact h.elim
  | succ d => exact h.1
theorem jFm.pos {C : jK} {N Y b n : Int} {d : Nat} (h : jFm C N Y d b n) : 1 ≤ d := by
  cases d with
  | zero => exact h.elim
  | succ d => omega
theorem jFm.part {C : jK} {N Y b n : Int} {d : Nat} (h : jFm C N Y d b n) {k : Int} (h0 : 0 ≤ k) (h1 : k < jPts C n) : jFm C N Y (d - 1) (b + jQf C n) (jPr C n k) := by
  cases d with
  | zero => exact h.elim
  | succ d => exact h.2 k h0 h1
theorem jFm.mono {C : jK} {N Y : Int} {d : Nat} : ∀ {b n : Int}, jFm C N Y d b n → ∀ {d1 : Nat} {b1 : Int}, d ≤ d1 → b ≤ b1 → jFm C N Y d1 b1 n := by
  induction d with
  | zero => intro b n h; exact h.elim
  | succ d ih =>
    intro b n h d1 b1 hd hb
    cases d1 with
    | zero => omega
    | succ d1 =>
      obtain ⟨⟨h1, h2, h3, h4, h5, h6, h7, h8⟩, hp⟩ := h
      exact ⟨⟨h1, h2, h3, h4, h5, fun q => ⟨(h6 q).1, by have := (h6 q).2; omega⟩, h7, h8⟩, fun k g0 g1 => ih (hp k g0 g1) (by omega) (by omega)⟩
theorem jSzF_fuel {C : jK} {N Y : Int} {d : Nat} : ∀ {b n : Int}, jFm C N Y d b n → ∀ d1, d ≤ d1 → jSzF C d1 n = jSzF C d n := by
  induction d with
  | zero => intro b n h; exact h.elim
  | succ d ih =>
    intro b n h d1 hd
    cases d1 with
    | zero => omega
    | succ d1 =>
      have e : ∀ k, 0 ≤ k → k < jPts C n → jSzF C d1 (jPr C n k) = jSzF C d (jPr C n k) := fun k g0 g1 => ih (h.2 k g0 g1) d1 (by omega)
      unfold jSzF
      have e0 : (if 0 < jPts C n then jSzF C d1 (jPr C n 0) else 0) = (if 0 < jPts C n then jSzF C d (jPr C n 0) else 0) := by split; exact e 0 (by omega) (by omega); rfl
      have e1 : (if 1 < jPts C n then jSzF C d1 (jPr C n 1) else 0) = (if 1 < jPts C n then jSzF C d (jPr C n 1) else 0) := by split; exact e 1 (by omega) (by omega); rfl
      have e2 : (if 2 < jPts C n then jSzF C d1 (jPr C n 2) else 0) = (if 2 < jPts C n then jSzF C d (jPr C n 2) else 0) := by split; exact e 2 (by omega) (by omega); rfl
      rw [e0, e1, e2]
theorem jsz_step {C : jK} {N Y b n : Int} {d : Nat} (h : jFm C N Y d b n) (hd : d ≤ 4000) : jsz C n = jSzK C n (jPts C n) := by
  unfold jsz jSzK
  have e : ∀ k, 0 ≤ k → k < jPts C n → jSzF C 3999 (jPr C n k) = jsz C (jPr C n k) := fun k g0 g1 => by
    have hp := h.part g0 g1
    unfold jsz
    rw [jSzF_fuel hp 3999 (by omega), jSzF_fuel hp 4000 (by omega)]
  show 1 + (if 0 < jPts C n then jSzF C 3999 (jPr C n 0) else 0) + (if 1 < jPts C n then jSzF C 3999 (jPr C n 1) else 0) + (if 2 < jPts C n then jSzF C 3999 (jPr C n 2) else 0) = _
  have e0 : (if 0 < jPts C n then jSzF C 3999 (jPr C n 0) else 0) = (if 0 < jPts C n then jsz C (jPr C n 0) else 0) := by split; exact e 0 (by omega) (by omega); rfl
  have e1 : (if 1 < jPts C n then jSzF C 3999 (jPr C n 1) else 0) = (if 1 < jPts C n then jsz C (jPr C n 1) else 0) := by split; exact e 1 (by omega) (by omega); rfl
  have e2 : (if 2 < jPts C n then jSzF C 3999 (jPr C n 2) else 0) = (if 2 < jPts C n then jsz C (jPr C n 2) else 0) := by split; exact e 2 (by omega) (by omega); rfl
  rw [e0, e1, e2]
theorem jSzF_nn {C : jK} : ∀ (d : Nat) (n : Int), 0 ≤ jSzF C d n := by
  intro d
  induction d with
  | zero => intro n; unfold jSzF; omega
  | succ d ih =>
    intro n
    have h0 := ih (jPr C n 0); have h1 := ih (jPr C n 1); have h2 := ih (jPr C n 2)
    unfold jSzF
    split <;> split <;> split <;> omega
theorem jsz_nn (C : jK) (n : Int) : 0 ≤ jsz C n := jSzF_nn _ _
theorem jsz_pos {C : jK} {N Y b n : Int} {d : Nat} (_ : jFm C N Y d b n) : 1 ≤ jsz C n := by
  unfold jsz
  show 1 ≤ 1 + (if 0 < jPts C n then jSzF C 3999 (jPr C n 0) else 0) + (if 1 < jPts C n then jSzF C 3999 (jPr C n 1) else 0) + (if 2 < jPts C n then jSzF C 3999 (jPr C n 2) else 0)
  have h0 := jSzF_nn (C := C) 3999 (jPr C n 0); have h1 := jSzF_nn (C := C) 3999 (jPr C n 1); have h2 := jSzF_nn (C := C) 3999 (jPr C n 2)
  split <;> split <;> split <;> omega
theorem jSzK_0 (C : jK) (n : Int) : jSzK C n 0 = 1 := by unfold jSzK; simp
theorem jSzK_s (C : jK) (n : Int) {k : Int} (h0 : 0 ≤ k) (h1 : k ≤ 2) : jSzK C n (k + 1) = jSzK C n k + jsz C (jPr C n k) := by
  have h : k = 0 ∨ k = 1 ∨ k = 2 := by omega
  unfold jSzK
  rcases h with rfl | rfl | rfl <;> simp <;> omega
theorem jSzK_le (C : jK) (n : Int) {k p : Int} (h0 : 0 ≤ k) (h1 : k ≤ p) : jSzK C n k ≤ jSzK C n p := by
  have g0 := jsz_nn C (jPr C n 0); have g1 := jsz_nn C (jPr C n 1); have g2 := jsz_nn C (jPr C n 2)
  unfold jSzK
  split <;> split <;> split <;> split <;> split <;> split <;> omega
theorem jsz_part {C : jK} {N Y b n : Int} {d : Nat} (h : jFm C N Y d b n) (hd : d ≤ 4000) {k : Int} (h0 : 0 ≤ k) (h1 : k < jPts C n) : jsz C (jPr C n k) + 1 ≤ jsz C n := by
  have h9 := h.nd
  have hp : jPts C n ≤ 3 := h9.2.2.2.2.2.2.2.2
  rw [jsz_step h hd]
  have h2 := jSzK_le C n (k := k + 1) (p := jPts C n) (by omega) (by omega)
  rw [jSzK_s C n h0 (by omega)] at h2
  have h3 := jSzK_le C n (k := 0) (p := k) (by omega) h0
  rw [jSzK_0] at h3
  omega
/-- as deep as large at most -/
theorem jFm.tight {C : jK} {N Y : Int} {d : Nat} (hd : d ≤ 4000) : ∀ {b n : Int}, jFm C N Y d b n → ∀ e : Nat, jsz C n ≤ e → jFm C N Y e b n := by
  induction d with
  | zero => intro b n h; exact h.elim
  | succ d ih =>
    intro b n h e he
    have h1 := jsz_pos h
    cases e with
    | zero => exact absurd he (by omega)
    | succ e => exact ⟨h.1, fun k g0 g1 => ih (by omega) (h.2 k g0 g1) e (by have := jsz_part h (by omega) g0 g1; omega)⟩
-- the same rows below N
def jAgK (C D : jK) (N : Int) : Prop := (∀ j : Nat, (j : Int) < N → D.s j = C.s j ∧ D.n j = C.n j ∧ D.a j = C.a j ∧ D.b j = C.b j ∧ D.c j = C.c j) ∧ ∀ j, D.y j = C.y j
theorem jAgK.rf (C : jK) (N : Int) : jAgK C C N := ⟨fun _ _ => ⟨rfl, rfl, rfl, rfl, rfl⟩, fun _ => rfl⟩
theorem jAgK.tr {C D E : jK} {N M : Int} (h : jAgK C D N) (h1 : jAgK D E M) (hm : N ≤ M) : jAgK C E N := ⟨fun j hj => by
  obtain ⟨a1, a2, a3, a4, a5⟩ := h.1 j hj
  obtain ⟨b1, b2, b3, b4, b5⟩ := h1.1 j (by omega)
  exact ⟨b1.trans a1, b2.trans a2, b3.trans a3, b4.trans a4, b5.trans a5⟩, fun j => (h1.2 j).trans (h.2 j)⟩
theorem jAgK.so {C D : jK} {N n : Int} (h : jAgK C D N) (h0 : 0 ≤ n) (h1 : n < N) : jSo D.s n = jSo C.s n ∧ jSo D.n n = jSo C.n n ∧ jSo D.a n = jSo C.a n ∧ jSo D.b n = jSo C.b n ∧ jSo D.c n = jSo C.c n := by
  obtain ⟨a1, a2, a3, a4, a5⟩ := h.1 n.toNat (by omega)
  unfold jSo
  exact ⟨by rw [a1], by rw [a2], by rw [a3], by rw [a4], by rw [a5]⟩
theorem jAgK.pts {C D : jK} {N n : Int} (h : jAgK C D N) (h0 : 0 ≤ n) (h1 : n < N) : jPts D n = jPts C n := by
  obtain ⟨a1, a2, a3, a4, a5⟩ := h.so h0 h1
  unfold jPts
  rw [a1, a2]
  have e : jSo D.y (jSo C.n n) = jSo C.y (jSo C.n n) := by unfold jSo; rw [h.2]
  rw [e]
theorem jAgK.pr {C D : jK} {N n : Int} (h : jAgK C D N) (h0 : 0 ≤ n) (h1 : n < N) (k : Int) : jPr D n k = jPr C n k := by
  obtain ⟨a1, a2, a3, a4, a5⟩ := h.so h0 h1
  unfold jPr
  rw [a3, a4, a5]
theorem jAgK.qf {C D : jK} {N n : Int} (h : jAgK C D N) (h0 : 0 ≤ n) (h1 : n < N) : jQf D n = jQf C n := by
  unfold jQf
  rw [(h.so h0 h1).1]
theorem jFm.ag {C D : jK} {N M Y : Int} (hA : jAgK C D N) (hM : N ≤ M) {d : Nat} : ∀ {b n : Int}, jFm C N Y d b n → jFm D M Y d b n := by
  induction d with
  | zero => intro b n h; exact h.elim
  | succ d ih =>
    intro b n h
    obtain ⟨⟨h1, h2, h3, h4, h5, h6, h7, h8, h9⟩, hp⟩ := h
    obtain ⟨a1, a2, -⟩ := hA.so h1 h2
    have ap := hA.pts h1 h2
    refine ⟨⟨h1, by omega, ?_, ?_, ?_, ?_, ?_, ?_, ?_⟩, fun k g0 g1 => ?_⟩
    · rw [a1]; exact h3
    · rw [a1]; exact h4
    · rw [a1, a2]; exact h5
    · rw [a1, a2]; exact h6
    · rw [a1, a2]; exact h7
    · rw [ap]; exact h8
    · rw [ap]; exact h9
    · rw [hA.qf h1 h2, hA.pr h1 h2]; exact ih (hp k g0 (by rw [ap] at g1; exact g1))
theorem jSzF_ag {C D : jK} {N Y : Int} (hA : jAgK C D N) {d : Nat} : ∀ {b n : Int}, jFm C N Y d b n → ∀ e, jSzF D e n = jSzF C e n := by
  induction d with
  | zero => intro b n h; exact h.elim
  | succ d ih =>
    intro b n h e
    have h1 := h.nd.1; have h2 := h.nd.2.1
    cases e with
    | zero => rfl
    | succ e =>
      unfold jSzF
      rw [hA.pts h1 h2]
      have ee : ∀ k, 0 ≤ k → k < jPts C n → jSzF D e (jPr D n k) = jSzF C e (jPr C n k) := fun k g0 g1 => by rw [hA.pr h1 h2]; exact ih (h.2 k g0 g1) e
      have e0 : (if 0 < jPts C n then jSzF D e (jPr D n 0) else 0) = (if 0 < jPts C n then jSzF C e (jPr C n 0) else 0) := by split; exact ee 0 (by omega) (by omega); rfl
      have e1 : (if 1 < jPts C n then jSzF D e (jPr D n 1) else 0) = (if 1 < jPts C n then jSzF C e (jPr C n 1) else 0) := by split; exact ee 1 (by omega) (by omega); rfl
      have e2 : (if 2 < jPts C n then jSzF D e (jPr D n 2) else 0) = (if 2 < jPts C n then jSzF C e (jPr C n 2) else 0) := by split; exact ee 2 (by omega) (by omega); rfl
      rw [e0, e1, e2]
theorem jsz_ag {C D : jK} {N Y b n : Int} {d : Nat} (hA : jAgK C D N) (h : jFm C N Y d b n) : jsz D n = jsz C n := jSzF_ag hA h 4000
-- likeness
/-- the terms that are put in -/
def jTs (C : jK) (N Y : Int) (e : Nat) (T : Nat → Int32) (m : Int) : Prop := ∀ k : Int, 0 ≤ k → k < m → jFm C N Y e 0 (jSo T k) ∧ jsz C (jSo T k) ≤ 5000
theorem jTs.ag {C D : jK} {N M Y m : Int} {e : Nat} {T : Nat → Int32} (h : jTs C N Y e T m) (hA : jAgK C D N) (hM : N ≤ M) : jTs D M Y e T m := fun k g0 g1 => ⟨(h k g0 g1).1.ag hA hM, by rw [jsz_ag hA (h k g0 g1).1]; exact (h k g0 g1).2⟩
def jNw (C D : jK) (N ws wn wa wb wc : Int) : Prop := jAgK C D N ∧ jSo D.s N = ws ∧ jSo D.n N = wn ∧ jSo D.a N = wa ∧ jSo D.b N = wb ∧ jSo D.c N = wc
theorem jFm.wide {C : jK} {N Y N1 Y1 : Int} (hN : N ≤ N1) (hY : Y ≤ Y1) {d : Nat} : ∀ {b n : Int}, jFm C N Y d b n → jFm C N1 Y1 d b n := by
  induction d with
  | zero => intro b n h; exact h.elim
  | succ d ih =>
    intro b n h
    obtain ⟨⟨h1, h2, h3, h4, h5, h6⟩, hp⟩ := h
    exact ⟨⟨h1, by omega, h3, h4, fun q => ⟨(h5 q).1, by have := (h5 q).2; omega⟩, h6⟩, fun k g0 g1 => ih (hp k g0 g1)⟩
/-- a formula of some depth at most, whatever is bound around it -/
def jTr (C : jK) (d : Nat) (n : Int) : Prop := ∃ b, jFm C 120000 16 d b n
theorem jFm.tr {C : jK} {N Y b n : Int} {d : Nat} (h : jFm C N Y d b n) (hN : N ≤ 120000) (hY : Y ≤ 16) : jTr C d n := ⟨b, h.wide hN hY⟩
theorem jTr.part {C : jK} {d : Nat} {n k : Int} (h : jTr C d n) (h0 : 0 ≤ k) (h1 : k < jPts C n) : jTr C (d - 1) (jPr C n k) := by obtain ⟨b, h⟩ := h; exact ⟨_, h.part h0 h1⟩
theorem jTr.mono {C : jK} {d d1 : Nat} {n : Int} (h : jTr C d n) (hd : d ≤ d1) : jTr C d1 n := by obtain ⟨b, h⟩ := h; exact ⟨b, h.mono hd (Int.le_refl b)⟩
theorem jTr.ok {C : jK} {d : Nat} {n : Int} (h : jTr C d n) : 0 ≤ n ∧ n < 120000 ∧ 0 ≤ jSo C.s n ∧ jSo C.s n ≤ 10 ∧ (jSo C.s n = 7 ∨ jSo C.s n = 8 → 0 ≤ jSo C.n n ∧ jSo C.n n < 16) ∧ 0 ≤ jPts C n ∧ jPts C n ≤ 3 ∧ 1 ≤ d := by
  obtain ⟨b, h⟩ := h
  obtain ⟨h1, h2, h3, h4, h5, h6, h7, h8, h9⟩ := h.nd
  exact ⟨h1, h2, h3, h4, h5, h8, h9, h.pos⟩
theorem jTr.step {C : jK} {d : Nat} {n : Int} (h : jTr C d n) (hd : d ≤ 4000) : jsz C n = jSzK C n (jPts C n) := by obtain ⟨b, h⟩ := h; exact jsz_step h hd
theorem jTr.pos {C : jK} {d : Nat} {n : Int} (h : jTr C d n) : 1 ≤ jsz C n := by obtain ⟨b, h⟩ := h; exact jsz_pos h
/-- terms that are found so far -/
def jTo (C : jK) (N Y : Int) (T : Nat → Int32) (m : Int) : Prop := ∀ k : Int, 0 ≤ k → k < m → jSo T k < 0 ∨ (jFm C N Y 80 0 (jSo T k) ∧ jsz C (jSo T k) ≤ 80)
theorem jTo.set {C : jK} {N Y m g x : Int} {T T1 : Nat → Int32} {n : Nat} (h : jTo C N Y T m) (ho : ∀ j, j < n → j ≠ x.toNat → T1 j = T j) (hv : jSo T1 x = g) (hx : 0 ≤ x) (hm : m ≤ n) (hg : jFm C N Y 80 0 g) (hs : jsz C g ≤ 80) : jTo C N Y T1 m := fun k h0 h1 => by
  by_cases e : k = x
  · rw [e, hv]; exact Or.inr ⟨hg, hs⟩
  · have e1 : jSo T1 k = jSo T k := by unfold jSo; rw [ho k.toNat (by omega) (by omega)]
    rw [e1]; exact h k h0 h1
section J12
variable {p : Program} {l : Launch} {e : Env} {R : Room} {s : State} {m : MethodId} {args : Array Value} {below : List Frame} {meth : Method} {c : Code} {H : Heap} {locs : List Loc} {cells slots : Nat} {Q : State → Prop}
variable {cc : ByteArray} {pc : Nat} {ls : Array Slot} {rest : List Value} {dC : Nat → ClassId} {dI : Nat → Nat → Nat} {ca : Nat → ClassId} {B : jF} {base : Nat} {G0 G : jT} {E : List (Nat × Nat)} {H0 : Heap} {zc zs : Nat} {L : List jPin} {M : List jCt} {I : List jIv} {a k n : Nat} {P : Nat → Int32 → Prop} {cA : ClassId} {tys : List (ClassId × FieldType)}
theorem jSt.moreM (hh : jSt (dC, dI) B base G0 G E H0 zc zs L M I H locs) {M1 : List jCt} (h : jMc (dC, dI) G H M1) : jSt (dC, dI) B base G0 G E H0 zc zs L (M1 ++ M) I H locs := by
  obtain ⟨h1, h2, h3, h4, h5, h6, h7, h8, h9⟩ := hh
  exact ⟨h1, h2, h3, h4, h5, h6, h7, fun q hq => (List.mem_append.mp hq).elim (h q) (h8 q), h9⟩
end J12
end
