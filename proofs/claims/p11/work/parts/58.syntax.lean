def F8 (n : Nat) (G : jT) : List (Value → Prop) := [jRf G 102 8192, jRf G 132 8192, jRf G 133 16384, jI 0 8192]
def F12 (n : Nat) (G : jT) : List (Value → Prop) := [jRf G 8 0, jRf G 101 1500, jRf G 101 1500, jI 0 1500, jI 0 1503, jIa, jRf G 101 3, jI 0 3, jIa, jRf G 101 3000, jI 0 3000]
theorem dX6_numberOf_0 : decode cX6_numberOf 0 = .ok (.iload_n 2, 1) := by decide +kernel
theorem dX6_numberOf_1 : decode cX6_numberOf 1 = .ok (.ifCond .lt 31, 3) := by decide +kernel
theorem dX6_numberOf_4 : decode cX6_numberOf 4 = .ok (.iload_n 3, 1) := by decide +kernel
theorem dX6_numberOf_5 : decode cX6_numberOf 5 = .ok (.aload_n 1, 1) := by decide +kernel
theorem dX6_numberOf_6 : decode cX6_numberOf 6 = .ok (.arraylength, 1) := by decide +kernel
theorem dX6_numberOf_7 : decode cX6_numberOf 7 = .ok (.if_icmp .gt 25, 3) := by decide +kernel
theorem dX6_numberOf_10 : decode cX6_numberOf 10 = .ok (.iload_n 2, 1) := by decide +kernel
theorem dX6_numberOf_11 : decode cX6_numberOf 11 = .ok (.iload_n 3, 1) := by decide +kernel
theorem dX6_numberOf_12 : decode cX6_numberOf 12 = .ok (.if_icmp .ge 20, 3) := by decide +kernel
theorem dX6_numberOf_15 : decode cX6_numberOf 15 = .ok (.iload_n 3, 1) := by decide +kernel
theorem dX6_numberOf_16 : decode cX6_numberOf 16 = .ok (.iload_n 2, 1) := by decide +kernel
theorem dX6_numberOf_17 : decode cX6_numberOf 17 = .ok (.isub, 1) := by decide +kernel
theorem dX6_numberOf_18 : decode cX6_numberOf 18 = .ok (.bipush 10, 2) := by decide +kernel
theorem dX6_numberOf_20 : decode cX6_numberOf 20 = .ok (.if_icmp .gt 12, 3) := by decide +kernel
theorem dX6_numberOf_23 : decode cX6_numberOf 23 = .ok (.aload_n 1, 1) := by decide +kernel
theorem dX6_numberOf_24 : decode cX6_numberOf 24 = .ok (.iload_n 2, 1) := by decide +kernel
theorem dX6_numberOf_25 : decode cX6_numberOf 25 = .ok (.iaload, 1) := by decide +kernel
theorem dX6_numberOf_26 : decode cX6_numberOf 26 = .ok (.invokestatic 38, 3) := by decide +kernel
theorem dX6_numberOf_29 : decode cX6_numberOf 29 = .ok (.ifCond .ne 5, 3) := by decide +kernel
theorem dX6_numberOf_32 : decode cX6_numberOf 32 = .ok (.iconst (-1), 1) := by decide +kernel
theorem dX6_numberOf_33 : decode cX6_numberOf 33 = .ok (.ireturn, 1) := by decide +kernel
theorem dX6_numberOf_34 : decode cX6_numberOf 34 = .ok (.iload_n 3, 1) := by decide +kernel
theorem dX6_numberOf_35 : decode cX6_numberOf 35 = .ok (.istore 5, 2) := by decide +kernel
theorem dX6_numberOf_37 : decode cX6_numberOf 37 = .ok (.iload 5, 2) := by decide +kernel
theorem dX6_numberOf_39 : decode cX6_numberOf 39 = .ok (.iload_n 2, 1) := by decide +kernel
theorem dX6_numberOf_40 : decode cX6_numberOf 40 = .ok (.if_icmp .le 20, 3) := by decide +kernel
theorem dX6_numberOf_43 : decode cX6_numberOf 43 = .ok (.aload_n 1, 1) := by decide +kernel
theorem dX6_numberOf_44 : decode cX6_numberOf 44 = .ok (.iload 5, 2) := by decide +kernel
theorem dX6_numberOf_46 : decode cX6_numberOf 46 = .ok (.iconst 1, 1) := by decide +kernel
theorem dX6_numberOf_47 : decode cX6_numberOf 47 = .ok (.isub, 1) := by decide +kernel
theorem dX6_numberOf_48 : decode cX6_numberOf 48 = .ok (.iaload, 1) := by decide +kernel
theorem dX6_numberOf_49 : decode cX6_numberOf 49 = .ok (.bipush 39, 2) := by decide +kernel
theorem dX6_numberOf_51 : decode cX6_numberOf 51 = .ok (.if_icmp .ne 9, 3) := by decide +kernel
theorem dX6_numberOf_54 : decode cX6_numberOf 54 = .ok (.iinc 5 (-1), 3) := by decide +kernel
theorem dX6_numberOf_57 : decode cX6_numberOf 57 = .ok (.goto (-20), 3) := by decide +kernel
theorem dX6_numberOf_60 : decode cX6_numberOf 60 = .ok (.lconst 1, 1) := by decide +kernel
theorem dX6_numberOf_61 : decode cX6_numberOf 61 = .ok (.lstore 6, 2) := by decide +kernel
theorem dX6_numberOf_63 : decode cX6_numberOf 63 = .ok (.iload 5, 2) := by decide +kernel
theorem dX6_numberOf_65 : decode cX6_numberOf 65 = .ok (.iconst 1, 1) := by decide +kernel
theorem dX6_numberOf_66 : decode cX6_numberOf 66 = .ok (.isub, 1) := by decide +kernel
theorem dX6_numberOf_67 : decode cX6_numberOf 67 = .ok (.istore 8, 2) := by decide +kernel
theorem dX6_numberOf_69 : decode cX6_numberOf 69 = .ok (.iload 8, 2) := by decide +kernel
theorem dX6_numberOf_71 : decode cX6_numberOf 71 = .ok (.iload_n 2, 1) := by decide +kernel
theorem dX6_numberOf_72 : decode cX6_numberOf 72 = .ok (.if_icmp .lt 36, 3) := by decide +kernel
theorem dX6_numberOf_75 : decode cX6_numberOf 75 = .ok (.aload_n 1, 1) := by decide +kernel
theorem dX6_numberOf_76 : decode cX6_numberOf 76 = .ok (.iload 8, 2) := by decide +kernel
theorem dX6_numberOf_78 : decode cX6_numberOf 78 = .ok (.iaload, 1) := by decide +kernel
theorem dX6_numberOf_79 : decode cX6_numberOf 79 = .ok (.invokestatic 42, 3) := by decide +kernel
theorem dX6_numberOf_82 : decode cX6_numberOf 82 = .ok (.istore 9, 2) := by decide +kernel
theorem dX6_numberOf_84 : decode cX6_numberOf 84 = .ok (.iload 9, 2) := by decide +kernel
theorem dX6_numberOf_86 : decode cX6_numberOf 86 = .ok (.ifCond .ge 5, 3) := by decide +kernel
theorem dX6_numberOf_89 : decode cX6_numberOf 89 = .ok (.iconst (-1), 1) := by decide +kernel
theorem dX6_numberOf_90 : decode cX6_numberOf 90 = .ok (.ireturn, 1) := by decide +kernel
theorem dX6_numberOf_91 : decode cX6_numberOf 91 = .ok (.lload 6, 2) := by decide +kernel
theorem dX6_numberOf_93 : decode cX6_numberOf 93 = .ok (.bipush 6, 2) := by decide +kernel
theorem dX6_numberOf_95 : decode cX6_numberOf 95 = .ok (.lshl, 1) := by decide +kernel
theorem dX6_numberOf_96 : decode cX6_numberOf 96 = .ok (.iload 9, 2) := by decide +kernel
theorem dX6_numberOf_98 : decode cX6_numberOf 98 = .ok (.i2l, 1) := by decide +kernel
theorem dX6_numberOf_99 : decode cX6_numberOf 99 = .ok (.lor, 1) := by decide +kernel
theorem dX6_numberOf_100 : decode cX6_numberOf 100 = .ok (.lstore 6, 2) := by decide +kernel
theorem dX6_numberOf_102 : decode cX6_numberOf 102 = .ok (.iinc 8 (-1), 3) := by decide +kernel
theorem dX6_numberOf_105 : decode cX6_numberOf 105 = .ok (.goto (-36), 3) := by decide +kernel
theorem dX6_numberOf_108 : decode cX6_numberOf 108 = .ok (.aload_n 0, 1) := by decide +kernel
theorem dX6_numberOf_109 : decode cX6_numberOf 109 = .ok (.lload 6, 2) := by decide +kernel
theorem dX6_numberOf_111 : decode cX6_numberOf 111 = .ok (.iload_n 3, 1) := by decide +kernel
theorem dX6_numberOf_112 : decode cX6_numberOf 112 = .ok (.iload 5, 2) := by decide +kernel
theorem dX6_numberOf_114 : decode cX6_numberOf 114 = .ok (.isub, 1) := by decide +kernel
theorem dX6_numberOf_115 : decode cX6_numberOf 115 = .ok (.iload 4, 2) := by decide +kernel
theorem dX6_numberOf_117 : decode cX6_numberOf 117 = .ok (.invokevirtual 46, 3) := by decide +kernel
theorem dX6_numberOf_120 : decode cX6_numberOf 120 = .ok (.ireturn, 1) := by decide +kernel
theorem dX6_find_0 : decode cX6_find 0 = .ok (.lload_n 1, 1) := by decide +kernel
theorem dX6_find_1 : decode cX6_find 1 = .ok (.ldc2_w 50, 3) := by decide +kernel
theorem dX6_find_4 : decode cX6_find 4 = .ok (.lmul, 1) := by decide +kernel
theorem dX6_find_5 : decode cX6_find 5 = .ok (.bipush 40, 2) := by decide +kernel
theorem dX6_find_7 : decode cX6_find 7 = .ok (.lushr, 1) := by decide +kernel
theorem dX6_find_8 : decode cX6_find 8 = .ok (.l2i, 1) := by decide +kernel
theorem dX6_find_9 : decode cX6_find 9 = .ok (.bipush 31, 2) := by decide +kernel
theorem dX6_find_11 : decode cX6_find 11 = .ok (.iload_n 3, 1) := by decide +kernel
theorem dX6_find_12 : decode cX6_find 12 = .ok (.imul, 1) := by decide +kernel
theorem dX6_find_13 : decode cX6_find 13 = .ok (.iadd, 1) := by decide +kernel
theorem dX6_find_14 : decode cX6_find 14 = .ok (.istore 5, 2) := by decide +kernel
theorem dX6_find_16 : decode cX6_find 16 = .ok (.iconst 0, 1) := by decide +kernel
theorem dX6_find_17 : decode cX6_find 17 = .ok (.istore 6, 2) := by decide +kernel
theorem dX6_find_19 : decode cX6_find 19 = .ok (.iload 6, 2) := by decide +kernel
theorem dX6_find_21 : decode cX6_find 21 = .ok (.sipush 16384, 3) := by decide +kernel
theorem dX6_find_24 : decode cX6_find 24 = .ok (.if_icmp .ge 127, 3) := by decide +kernel
theorem dX6_find_27 : decode cX6_find 27 = .ok (.iload 5, 2) := by decide +kernel
theorem dX6_find_29 : decode cX6_find 29 = .ok (.iload 6, 2) := by decide +kernel
theorem dX6_find_31 : decode cX6_find 31 = .ok (.iadd, 1) := by decide +kernel
theorem dX6_find_32 : decode cX6_find 32 = .ok (.sipush 16383, 3) := by decide +kernel
theorem dX6_find_35 : decode cX6_find 35 = .ok (.iand, 1) := by decide +kernel
theorem dX6_find_36 : decode cX6_find 36 = .ok (.istore 7, 2) := by decide +kernel
theorem dX6_find_38 : decode cX6_find 38 = .ok (.aload_n 0, 1) := by decide +kernel
theorem dX6_find_39 : decode cX6_find 39 = .ok (.getfield 19, 3) := by decide +kernel
theorem dX6_find_42 : decode cX6_find 42 = .ok (.iload 7, 2) := by decide +kernel
theorem dX6_find_44 : decode cX6_find 44 = .ok (.iaload, 1) := by decide +kernel
theorem dX6_find_45 : decode cX6_find 45 = .ok (.iconst 1, 1) := by decide +kernel
theorem dX6_find_46 : decode cX6_find 46 = .ok (.isub, 1) := by decide +kernel
theorem dX6_find_47 : decode cX6_find 47 = .ok (.istore 8, 2) := by decide +kernel
theorem dX6_find_49 : decode cX6_find 49 = .ok (.iload 8, 2) := by decide +kernel
theorem dX6_find_51 : decode cX6_find 51 = .ok (.ifCond .ge 68, 3) := by decide +kernel
theorem dX6_find_54 : decode cX6_find 54 = .ok (.iload 4, 2) := by decide +kernel
theorem dX6_find_56 : decode cX6_find 56 = .ok (.ifCond .eq 13, 3) := by decide +kernel
theorem dX6_find_59 : decode cX6_find 59 = .ok (.aload_n 0, 1) := by decide +kernel
theorem dX6_find_60 : decode cX6_find 60 = .ok (.getfield 52, 3) := by decide +kernel
theorem dX6_find_63 : decode cX6_find 63 = .ok (.sipush 8192, 3) := by decide +kernel
theorem dX6_find_66 : decode cX6_find 66 = .ok (.if_icmp .lt 5, 3) := by decide +kernel
theorem dX6_find_69 : decode cX6_find 69 = .ok (.iconst (-1), 1) := by decide +kernel
theorem dX6_find_70 : decode cX6_find 70 = .ok (.ireturn, 1) := by decide +kernel
theorem dX6_find_71 : decode cX6_find 71 = .ok (.aload_n 0, 1) := by decide +kernel
theorem dX6_find_72 : decode cX6_find 72 = .ok (.getfield 11, 3) := by decide +kernel
theorem dX6_find_75 : decode cX6_find 75 = .ok (.aload_n 0, 1) := by decide +kernel
theorem dX6_find_76 : decode cX6_find 76 = .ok (.getfield 52, 3) := by decide +kernel
theorem dX6_find_79 : decode cX6_find 79 = .ok (.lload_n 1, 1) := by decide +kernel
theorem dX6_find_80 : decode cX6_find 80 = .ok (.lastore, 1) := by decide +kernel
theorem dX6_find_81 : decode cX6_find 81 = .ok (.aload_n 0, 1) := by decide +kernel
theorem dX6_find_82 : decode cX6_find 82 = .ok (.getfield 15, 3) := by decide +kernel
theorem dX6_find_85 : decode cX6_find 85 = .ok (.aload_n 0, 1) := by decide +kernel
theorem dX6_find_86 : decode cX6_find 86 = .ok (.getfield 52, 3) := by decide +kernel
theorem dX6_find_89 : decode cX6_find 89 = .ok (.iload_n 3, 1) := by decide +kernel
theorem dX6_find_90 : decode cX6_find 90 = .ok (.iastore, 1) := by decide +kernel
theorem dX6_find_91 : decode cX6_find 91 = .ok (.aload_n 0, 1) := by decide +kernel
theorem dX6_find_92 : decode cX6_find 92 = .ok (.dup, 1) := by decide +kernel
theorem dX6_find_93 : decode cX6_find 93 = .ok (.getfield 52, 3) := by decide +kernel
theorem dX6_find_96 : decode cX6_find 96 = .ok (.iconst 1, 1) := by decide +kernel
theorem dX6_find_97 : decode cX6_find 97 = .ok (.iadd, 1) := by decide +kernel
theorem dX6_find_98 : decode cX6_find 98 = .ok (.putfield 52, 3) := by decide +kernel
theorem dX6_find_101 : decode cX6_find 101 = .ok (.aload_n 0, 1) := by decide +kernel
theorem dX6_find_102 : decode cX6_find 102 = .ok (.getfield 19, 3) := by decide +kernel
theorem dX6_find_105 : decode cX6_find 105 = .ok (.iload 7, 2) := by decide +kernel
theorem dX6_find_107 : decode cX6_find 107 = .ok (.aload_n 0, 1) := by decide +kernel
theorem dX6_find_108 : decode cX6_find 108 = .ok (.getfield 52, 3) := by decide +kernel
theorem dX6_find_111 : decode cX6_find 111 = .ok (.iastore, 1) := by decide +kernel
theorem dX6_find_112 : decode cX6_find 112 = .ok (.aload_n 0, 1) := by decide +kernel
theorem dX6_find_113 : decode cX6_find 113 = .ok (.getfield 52, 3) := by decide +kernel
theorem dX6_find_116 : decode cX6_find 116 = .ok (.iconst 1, 1) := by decide +kernel
theorem dX6_find_117 : decode cX6_find 117 = .ok (.isub, 1) := by decide +kernel
theorem dX6_find_118 : decode cX6_find 118 = .ok (.ireturn, 1) := by decide +kernel
theorem dX6_find_119 : decode cX6_find 119 = .ok (.aload_n 0, 1) := by decide +kernel
theorem dX6_find_120 : decode cX6_find 120 = .ok (.getfield 11, 3) := by decide +kernel
theorem dX6_find_123 : decode cX6_find 123 = .ok (.iload 8, 2) := by decide +kernel
theorem dX6_find_125 : decode cX6_find 125 = .ok (.laload, 1) := by decide +kernel
theorem dX6_find_126 : decode cX6_find 126 = .ok (.lload_n 1, 1) := by decide +kernel
theorem dX6_find_127 : decode cX6_find 127 = .ok (.lcmp, 1) := by decide +kernel
theorem dX6_find_128 : decode cX6_find 128 = .ok (.ifCond .ne 17, 3) := by decide +kernel
theorem dX6_find_131 : decode cX6_find 131 = .ok (.aload_n 0, 1) := by decide +kernel
theorem dX6_find_132 : decode cX6_find 132 = .ok (.getfield 15, 3) := by decide +kernel
theorem dX6_find_135 : decode cX6_find 135 = .ok (.iload 8, 2) := by decide +kernel
theorem dX6_find_137 : decode cX6_find 137 = .ok (.iaload, 1) := by decide +kernel
theorem dX6_find_138 : decode cX6_find 138 = .ok (.iload_n 3, 1) := by decide +kernel
theorem dX6_find_139 : decode cX6_find 139 = .ok (.if_icmp .ne 6, 3) := by decide +kernel
theorem dX6_find_142 : decode cX6_find 142 = .ok (.iload 8, 2) := by decide +kernel
theorem dX6_find_144 : decode cX6_find 144 = .ok (.ireturn, 1) := by decide +kernel
theorem dX6_find_145 : decode cX6_find 145 = .ok (.iinc 6 1, 3) := by decide +kernel
theorem dX6_find_148 : decode cX6_find 148 = .ok (.goto (-129), 3) := by decide +kernel
theorem dX6_find_151 : decode cX6_find 151 = .ok (.iconst (-1), 1) := by decide +kernel
theorem dX6_find_152 : decode cX6_find 152 = .ok (.ireturn, 1) := by decide +kernel
theorem dX10_scan_0 : decode cX10_scan 0 = .ok (.aload_n 0, 1) := by decide +kernel
theorem dX10_scan_1 : decode cX10_scan 1 = .ok (.iconst 0, 1) := by decide +kernel
theorem dX10_scan_2 : decode cX10_scan 2 = .ok (.putfield 28, 3) := by decide +kernel
theorem dX10_scan_5 : decode cX10_scan 5 = .ok (.iload_n 3, 1) := by decide +kernel
theorem dX10_scan_6 : decode cX10_scan 6 = .ok (.aload_n 1, 1) := by decide +kernel
theorem dX10_scan_7 : decode cX10_scan 7 = .ok (.arraylength, 1) := by decide +kernel
theorem dX10_scan_8 : decode cX10_scan 8 = .ok (.invokestatic 32, 3) := by decide +kernel
theorem dX10_scan_11 : decode cX10_scan 11 = .ok (.istore 4, 2) := by decide +kernel
theorem dX10_scan_13 : decode cX10_scan 13 = .ok (.iload_n 2, 1) := by decide +kernel
theorem dX10_scan_14 : decode cX10_scan 14 = .ok (.iconst 0, 1) := by decide +kernel
theorem dX10_scan_15 : decode cX10_scan 15 = .ok (.invokestatic 38, 3) := by decide +kernel
theorem dX10_scan_18 : decode cX10_scan 18 = .ok (.istore 5, 2) := by decide +kernel
theorem dX10_scan_20 : decode cX10_scan 20 = .ok (.iload 5, 2) := by decide +kernel
theorem dX10_scan_22 : decode cX10_scan 22 = .ok (.iload 4, 2) := by decide +kernel
theorem dX10_scan_24 : decode cX10_scan 24 = .ok (.if_icmp .ge 216, 3) := by decide +kernel
theorem dX10_scan_27 : decode cX10_scan 27 = .ok (.iload 5, 2) := by decide +kernel
theorem dX10_scan_29 : decode cX10_scan 29 = .ok (.iconst 1, 1) := by decide +kernel
theorem dX10_scan_30 : decode cX10_scan 30 = .ok (.iadd, 1) := by decide +kernel
theorem dX10_scan_31 : decode cX10_scan 31 = .ok (.istore 6, 2) := by decide +kernel
theorem dX10_scan_33 : decode cX10_scan 33 = .ok (.aload_n 1, 1) := by decide +kernel
theorem dX10_scan_34 : decode cX10_scan 34 = .ok (.iload 5, 2) := by decide +kernel
theorem dX10_scan_36 : decode cX10_scan 36 = .ok (.iload 4, 2) := by decide +kernel
theorem dX10_scan_38 : decode cX10_scan 38 = .ok (.invokestatic 41, 3) := by decide +kernel
theorem dX10_scan_41 : decode cX10_scan 41 = .ok (.ifCond .eq 16, 3) := by decide +kernel
theorem dX10_scan_44 : decode cX10_scan 44 = .ok (.aload_n 1, 1) := by decide +kernel
theorem dX10_scan_45 : decode cX10_scan 45 = .ok (.iload 5, 2) := by decide +kernel
theorem dX10_scan_47 : decode cX10_scan 47 = .ok (.iload 4, 2) := by decide +kernel
theorem dX10_scan_49 : decode cX10_scan 49 = .ok (.invokestatic 45, 3) := by decide +kernel
theorem dX10_scan_52 : decode cX10_scan 52 = .ok (.istore 6, 2) := by decide +kernel
theorem dX10_scan_54 : decode cX10_scan 54 = .ok (.goto 172, 3) := by decide +kernel
theorem dX10_scan_57 : decode cX10_scan 57 = .ok (.aload_n 1, 1) := by decide +kernel
theorem dX10_scan_58 : decode cX10_scan 58 = .ok (.iload 5, 2) := by decide +kernel
theorem dX10_scan_60 : decode cX10_scan 60 = .ok (.iaload, 1) := by decide +kernel
theorem dX10_scan_61 : decode cX10_scan 61 = .ok (.invokestatic 49, 3) := by decide +kernel
theorem dX10_scan_64 : decode cX10_scan 64 = .ok (.ifCond .eq 17, 3) := by decide +kernel
theorem dX10_scan_67 : decode cX10_scan 67 = .ok (.aload_n 0, 1) := by decide +kernel
theorem dX10_scan_68 : decode cX10_scan 68 = .ok (.aload_n 1, 1) := by decide +kernel
theorem dX10_scan_69 : decode cX10_scan 69 = .ok (.iload 5, 2) := by decide +kernel
theorem dX10_scan_71 : decode cX10_scan 71 = .ok (.iload 4, 2) := by decide +kernel
theorem dX10_scan_73 : decode cX10_scan 73 = .ok (.invokevirtual 53, 3) := by decide +kernel
theorem dX10_scan_76 : decode cX10_scan 76 = .ok (.istore 6, 2) := by decide +kernel
theorem dX10_scan_78 : decode cX10_scan 78 = .ok (.goto 148, 3) := by decide +kernel
theorem dX10_scan_81 : decode cX10_scan 81 = .ok (.aload_n 1, 1) := by decide +kernel
theorem dX10_scan_82 : decode cX10_scan 82 = .ok (.iload 5, 2) := by decide +kernel
theorem dX10_scan_84 : decode cX10_scan 84 = .ok (.iaload, 1) := by decide +kernel
theorem dX10_scan_85 : decode cX10_scan 85 = .ok (.bipush 45, 2) := by decide +kernel
theorem dX10_scan_87 : decode cX10_scan 87 = .ok (.if_icmp .ne 39, 3) := by decide +kernel
theorem dX10_scan_90 : decode cX10_scan 90 = .ok (.iload 5, 2) := by decide +kernel
theorem dX10_scan_92 : decode cX10_scan 92 = .ok (.iconst 1, 1) := by decide +kernel
theorem dX10_scan_93 : decode cX10_scan 93 = .ok (.iadd, 1) := by decide +kernel
theorem dX10_scan_94 : decode cX10_scan 94 = .ok (.iload 4, 2) := by decide +kernel
theorem dX10_scan_96 : decode cX10_scan 96 = .ok (.if_icmp .ge 30, 3) := by decide +kernel
theorem dX10_scan_99 : decode cX10_scan 99 = .ok (.aload_n 1, 1) := by decide +kernel
theorem dX10_scan_100 : decode cX10_scan 100 = .ok (.iload 5, 2) := by decide +kernel
theorem dX10_scan_102 : decode cX10_scan 102 = .ok (.iconst 1, 1) := by decide +kernel
theorem dX10_scan_103 : decode cX10_scan 103 = .ok (.iadd, 1) := by decide +kernel
theorem dX10_scan_104 : decode cX10_scan 104 = .ok (.iaload, 1) := by decide +kernel
theorem dX10_scan_105 : decode cX10_scan 105 = .ok (.bipush 62, 2) := by decide +kernel
theorem dX10_scan_107 : decode cX10_scan 107 = .ok (.if_icmp .ne 19, 3) := by decide +kernel
theorem dX10_scan_110 : decode cX10_scan 110 = .ok (.aload_n 0, 1) := by decide +kernel
theorem dX10_scan_111 : decode cX10_scan 111 = .ok (.bipush 62, 2) := by decide +kernel
theorem dX10_scan_113 : decode cX10_scan 113 = .ok (.iconst 0, 1) := by decide +kernel
theorem dX10_scan_114 : decode cX10_scan 114 = .ok (.invokevirtual 56, 3) := by decide +kernel
theorem dX10_scan_117 : decode cX10_scan 117 = .ok (.iload 5, 2) := by decide +kernel
theorem dX10_scan_119 : decode cX10_scan 119 = .ok (.iconst 2, 1) := by decide +kernel
theorem dX10_scan_120 : decode cX10_scan 120 = .ok (.iadd, 1) := by decide +kernel
theorem dX10_scan_121 : decode cX10_scan 121 = .ok (.istore 6, 2) := by decide +kernel
theorem dX10_scan_123 : decode cX10_scan 123 = .ok (.goto 103, 3) := by decide +kernel
theorem dX10_scan_126 : decode cX10_scan 126 = .ok (.aload_n 1, 1) := by decide +kernel
theorem dX10_scan_127 : decode cX10_scan 127 = .ok (.iload 5, 2) := by decide +kernel
theorem dX10_scan_129 : decode cX10_scan 129 = .ok (.iaload, 1) := by decide +kernel
theorem dX10_scan_130 : decode cX10_scan 130 = .ok (.invokestatic 60, 3) := by decide +kernel
theorem dX10_scan_133 : decode cX10_scan 133 = .ok (.ifCond .eq 19, 3) := by decide +kernel
theorem dX10_scan_136 : decode cX10_scan 136 = .ok (.aload_n 0, 1) := by decide +kernel
theorem dX10_scan_137 : decode cX10_scan 137 = .ok (.bipush 100, 2) := by decide +kernel
theorem dX10_scan_139 : decode cX10_scan 139 = .ok (.aload_n 1, 1) := by decide +kernel
theorem dX10_scan_140 : decode cX10_scan 140 = .ok (.iload 5, 2) := by decide +kernel
theorem dX10_scan_142 : decode cX10_scan 142 = .ok (.iaload, 1) := by decide +kernel
theorem dX10_scan_143 : decode cX10_scan 143 = .ok (.bipush 48, 2) := by decide +kernel
theorem dX10_scan_145 : decode cX10_scan 145 = .ok (.isub, 1) := by decide +kernel
theorem dX10_scan_146 : decode cX10_scan 146 = .ok (.invokevirtual 56, 3) := by decide +kernel
theorem dX10_scan_149 : decode cX10_scan 149 = .ok (.goto 77, 3) := by decide +kernel
theorem dX10_scan_152 : decode cX10_scan 152 = .ok (.aload_n 1, 1) := by decide +kernel
theorem dX10_scan_153 : decode cX10_scan 153 = .ok (.iload 5, 2) := by decide +kernel
theorem dX10_scan_155 : decode cX10_scan 155 = .ok (.iaload, 1) := by decide +kernel
theorem dX10_scan_156 : decode cX10_scan 156 = .ok (.invokestatic 63, 3) := by decide +kernel
theorem dX10_scan_159 : decode cX10_scan 159 = .ok (.ifCond .ne 67, 3) := by decide +kernel
theorem dX10_scan_162 : decode cX10_scan 162 = .ok (.aload_n 1, 1) := by decide +kernel
theorem dX10_scan_163 : decode cX10_scan 163 = .ok (.iload 5, 2) := by decide +kernel
theorem dX10_scan_165 : decode cX10_scan 165 = .ok (.iaload, 1) := by decide +kernel
theorem dX10_scan_166 : decode cX10_scan 166 = .ok (.bipush 46, 2) := by decide +kernel
theorem dX10_scan_168 : decode cX10_scan 168 = .ok (.if_icmp .ne 10, 3) := by decide +kernel
theorem dX10_scan_171 : decode cX10_scan 171 = .ok (.iload 6, 2) := by decide +kernel
theorem dX10_scan_173 : decode cX10_scan 173 = .ok (.iload 4, 2) := by decide +kernel
theorem dX10_scan_175 : decode cX10_scan 175 = .ok (.if_icmp .eq 26, 3) := by decide +kernel
theorem dX10_scan_178 : decode cX10_scan 178 = .ok (.aload_n 1, 1) := by decide +kernel
theorem dX10_scan_179 : decode cX10_scan 179 = .ok (.iload 5, 2) := by decide +kernel
theorem dX10_scan_181 : decode cX10_scan 181 = .ok (.iaload, 1) := by decide +kernel
theorem dX10_scan_182 : decode cX10_scan 182 = .ok (.sipush 128, 3) := by decide +kernel
theorem dX10_scan_185 : decode cX10_scan 185 = .ok (.if_icmp .ge 20, 3) := by decide +kernel
theorem dX10_scan_188 : decode cX10_scan 188 = .ok (.ldc 66, 2) := by decide +kernel
theorem dX10_scan_190 : decode cX10_scan 190 = .ok (.aload_n 1, 1) := by decide +kernel
theorem dX10_scan_191 : decode cX10_scan 191 = .ok (.iload 5, 2) := by decide +kernel
theorem dX10_scan_193 : decode cX10_scan 193 = .ok (.iaload, 1) := by decide +kernel
theorem dX10_scan_194 : decode cX10_scan 194 = .ok (.i2c, 1) := by decide +kernel
theorem dX10_scan_195 : decode cX10_scan 195 = .ok (.invokevirtual 68, 3) := by decide +kernel
theorem dX10_scan_198 : decode cX10_scan 198 = .ok (.ifCond .lt 7, 3) := by decide +kernel
theorem dX10_scan_201 : decode cX10_scan 201 = .ok (.iconst 1, 1) := by decide +kernel
theorem dX10_scan_202 : decode cX10_scan 202 = .ok (.goto 4, 3) := by decide +kernel
theorem dX10_scan_205 : decode cX10_scan 205 = .ok (.iconst 0, 1) := by decide +kernel
theorem dX10_scan_206 : decode cX10_scan 206 = .ok (.istore 7, 2) := by decide +kernel
theorem dX10_scan_208 : decode cX10_scan 208 = .ok (.aload_n 0, 1) := by decide +kernel
theorem dX10_scan_209 : decode cX10_scan 209 = .ok (.iload 7, 2) := by decide +kernel
theorem dX10_scan_211 : decode cX10_scan 211 = .ok (.ifCond .eq 10, 3) := by decide +kernel
theorem dX10_scan_214 : decode cX10_scan 214 = .ok (.aload_n 1, 1) := by decide +kernel
theorem dX10_scan_215 : decode cX10_scan 215 = .ok (.iload 5, 2) := by decide +kernel
theorem dX10_scan_217 : decode cX10_scan 217 = .ok (.iaload, 1) := by decide +kernel
theorem dX10_scan_218 : decode cX10_scan 218 = .ok (.goto 4, 3) := by decide +kernel
theorem dX10_scan_221 : decode cX10_scan 221 = .ok (.iconst 0, 1) := by decide +kernel
theorem dX10_scan_222 : decode cX10_scan 222 = .ok (.iconst 0, 1) := by decide +kernel
theorem dX10_scan_223 : decode cX10_scan 223 = .ok (.invokevirtual 56, 3) := by decide +kernel
theorem dX10_scan_226 : decode cX10_scan 226 = .ok (.iload 5, 2) := by decide +kernel
theorem dX10_scan_228 : decode cX10_scan 228 = .ok (.iconst 1, 1) := by decide +kernel
theorem dX10_scan_229 : decode cX10_scan 229 = .ok (.iadd, 1) := by decide +kernel
theorem dX10_scan_230 : decode cX10_scan 230 = .ok (.iload 6, 2) := by decide +kernel
theorem dX10_scan_232 : decode cX10_scan 232 = .ok (.invokestatic 38, 3) := by decide +kernel
theorem dX10_scan_235 : decode cX10_scan 235 = .ok (.istore 5, 2) := by decide +kernel
theorem dX10_scan_237 : decode cX10_scan 237 = .ok (.goto (-217), 3) := by decide +kernel
theorem dX10_scan_240 : decode cX10_scan 240 = .ok (.aload_n 0, 1) := by decide +kernel
theorem dX10_scan_241 : decode cX10_scan 241 = .ok (.getfield 28, 3) := by decide +kernel
theorem dX10_scan_244 : decode cX10_scan 244 = .ok (.ireturn, 1) := by decide +kernel
theorem dX10_scanName_0 : decode cX10_scanName 0 = .ok (.iload_n 2, 1) := by decide +kernel
theorem dX10_scanName_1 : decode cX10_scanName 1 = .ok (.iconst 1, 1) := by decide +kernel
theorem dX10_scanName_2 : decode cX10_scanName 2 = .ok (.iadd, 1) := by decide +kernel
theorem dX10_scanName_3 : decode cX10_scanName 3 = .ok (.istore 4, 2) := by decide +kernel
theorem dX10_scanName_5 : decode cX10_scanName 5 = .ok (.iload 4, 2) := by decide +kernel
theorem dX10_scanName_7 : decode cX10_scanName 7 = .ok (.iload_n 3, 1) := by decide +kernel
theorem dX10_scanName_8 : decode cX10_scanName 8 = .ok (.if_icmp .ge 19, 3) := by decide +kernel
theorem dX10_scanName_11 : decode cX10_scanName 11 = .ok (.aload_n 1, 1) := by decide +kernel
theorem dX10_scanName_12 : decode cX10_scanName 12 = .ok (.iload 4, 2) := by decide +kernel
theorem dX10_scanName_14 : decode cX10_scanName 14 = .ok (.iaload, 1) := by decide +kernel
theorem dX10_scanName_15 : decode cX10_scanName 15 = .ok (.invokestatic 74, 3) := by decide +kernel
theorem dX10_scanName_18 : decode cX10_scanName 18 = .ok (.ifCond .lt 9, 3) := by decide +kernel
theorem dX10_scanName_21 : decode cX10_scanName 21 = .ok (.iinc 4 1, 3) := by decide +kernel
theorem dX10_scanName_24 : decode cX10_scanName 24 = .ok (.goto (-19), 3) := by decide +kernel
theorem dX10_scanName_27 : decode cX10_scanName 27 = .ok (.iload 4, 2) := by decide +kernel
theorem dX10_scanName_29 : decode cX10_scanName 29 = .ok (.iload_n 2, 1) := by decide +kernel
theorem dX10_scanName_30 : decode cX10_scanName 30 = .ok (.isub, 1) := by decide +kernel
theorem dX10_scanName_31 : decode cX10_scanName 31 = .ok (.bipush 10, 2) := by decide +kernel
theorem dX10_scanName_33 : decode cX10_scanName 33 = .ok (.if_icmp .gt 37, 3) := by decide +kernel
theorem dX10_scanName_36 : decode cX10_scanName 36 = .ok (.aload_n 0, 1) := by decide +kernel
theorem dX10_scanName_37 : decode cX10_scanName 37 = .ok (.getfield 24, 3) := by decide +kernel
theorem dX10_scanName_40 : decode cX10_scanName 40 = .ok (.aload_n 1, 1) := by decide +kernel
theorem dX10_scanName_41 : decode cX10_scanName 41 = .ok (.iload_n 2, 1) := by decide +kernel
theorem dX10_scanName_42 : decode cX10_scanName 42 = .ok (.iload 4, 2) := by decide +kernel
theorem dX10_scanName_44 : decode cX10_scanName 44 = .ok (.iconst 1, 1) := by decide +kernel
theorem dX10_scanName_45 : decode cX10_scanName 45 = .ok (.invokevirtual 79, 3) := by decide +kernel
theorem dX10_scanName_48 : decode cX10_scanName 48 = .ok (.istore 5, 2) := by decide +kernel
theorem dX10_scanName_50 : decode cX10_scanName 50 = .ok (.aload_n 0, 1) := by decide +kernel
theorem dX10_scanName_51 : decode cX10_scanName 51 = .ok (.iload 5, 2) := by decide +kernel
theorem dX10_scanName_53 : decode cX10_scanName 53 = .ok (.ifCond .ge 7, 3) := by decide +kernel
theorem dX10_scanName_56 : decode cX10_scanName 56 = .ok (.iconst 0, 1) := by decide +kernel
theorem dX10_scanName_57 : decode cX10_scanName 57 = .ok (.goto 5, 3) := by decide +kernel
theorem dX10_scanName_60 : decode cX10_scanName 60 = .ok (.bipush 110, 2) := by decide +kernel
theorem dX10_scanName_62 : decode cX10_scanName 62 = .ok (.iload 5, 2) := by decide +kernel
theorem dX10_scanName_64 : decode cX10_scanName 64 = .ok (.invokevirtual 56, 3) := by decide +kernel
theorem dX10_scanName_67 : decode cX10_scanName 67 = .ok (.goto 25, 3) := by decide +kernel
theorem dX10_scanName_70 : decode cX10_scanName 70 = .ok (.iload_n 2, 1) := by decide +kernel
theorem dX10_scanName_71 : decode cX10_scanName 71 = .ok (.istore 5, 2) := by decide +kernel
theorem dX10_scanName_73 : decode cX10_scanName 73 = .ok (.iload 5, 2) := by decide +kernel
theorem dX10_scanName_75 : decode cX10_scanName 75 = .ok (.iload 4, 2) := by decide +kernel
theorem dX10_scanName_77 : decode cX10_scanName 77 = .ok (.if_icmp .ge 15, 3) := by decide +kernel
theorem dX10_scanName_80 : decode cX10_scanName 80 = .ok (.aload_n 0, 1) := by decide +kernel
theorem dX10_scanName_81 : decode cX10_scanName 81 = .ok (.iconst 0, 1) := by decide +kernel
theorem dX10_scanName_82 : decode cX10_scanName 82 = .ok (.iconst 0, 1) := by decide +kernel
theorem dX10_scanName_83 : decode cX10_scanName 83 = .ok (.invokevirtual 56, 3) := by decide +kernel
theorem dX10_scanName_86 : decode cX10_scanName 86 = .ok (.iinc 5 1, 3) := by decide +kernel
theorem dX10_scanName_89 : decode cX10_scanName 89 = .ok (.goto (-16), 3) := by decide +kernel
theorem dX10_scanName_92 : decode cX10_scanName 92 = .ok (.iload 4, 2) := by decide +kernel
theorem dX10_scanName_94 : decode cX10_scanName 94 = .ok (.ireturn, 1) := by decide +kernel
theorem dX10_add_0 : decode cX10_add 0 = .ok (.aload_n 0, 1) := by decide +kernel
theorem dX10_add_1 : decode cX10_add 1 = .ok (.getfield 28, 3) := by decide +kernel
theorem dX10_add_4 : decode cX10_add 4 = .ok (.sipush 1500, 3) := by decide +kernel
theorem dX10_add_7 : decode cX10_add 7 = .ok (.if_icmp .ge 33, 3) := by decide +kernel
theorem dX10_add_10 : decode cX10_add 10 = .ok (.aload_n 0, 1) := by decide +kernel
theorem dX10_add_11 : decode cX10_add 11 = .ok (.getfield 9, 3) := by decide +kernel
theorem dX10_add_14 : decode cX10_add 14 = .ok (.aload_n 0, 1) := by decide +kernel
theorem dX10_add_15 : decode cX10_add 15 = .ok (.getfield 28, 3) := by decide +kernel
theorem dX10_add_18 : decode cX10_add 18 = .ok (.iload_n 1, 1) := by decide +kernel
theorem dX10_add_19 : decode cX10_add 19 = .ok (.iastore, 1) := by decide +kernel
theorem dX10_add_20 : decode cX10_add 20 = .ok (.aload_n 0, 1) := by decide +kernel
theorem dX10_add_21 : decode cX10_add 21 = .ok (.getfield 15, 3) := by decide +kernel
theorem dX10_add_24 : decode cX10_add 24 = .ok (.aload_n 0, 1) := by decide +kernel
theorem dX10_add_25 : decode cX10_add 25 = .ok (.getfield 28, 3) := by decide +kernel
theorem dX10_add_28 : decode cX10_add 28 = .ok (.iload_n 2, 1) := by decide +kernel
theorem dX10_add_29 : decode cX10_add 29 = .ok (.iastore, 1) := by decide +kernel
theorem dX10_add_30 : decode cX10_add 30 = .ok (.aload_n 0, 1) := by decide +kernel
theorem dX10_add_31 : decode cX10_add 31 = .ok (.dup, 1) := by decide +kernel
theorem dX10_add_32 : decode cX10_add 32 = .ok (.getfield 28, 3) := by decide +kernel
theorem dX10_add_35 : decode cX10_add 35 = .ok (.iconst 1, 1) := by decide +kernel
theorem dX10_add_36 : decode cX10_add 36 = .ok (.iadd, 1) := by decide +kernel
theorem dX10_add_37 : decode cX10_add 37 = .ok (.putfield 28, 3) := by decide +kernel
theorem dX10_add_40 : decode cX10_add 40 = .ok (.return_, 1) := by decide +kernel
theorem dX10_peek_0 : decode cX10_peek 0 = .ok (.aload_n 0, 1) := by decide +kernel
theorem dX10_peek_1 : decode cX10_peek 1 = .ok (.getfield 83, 3) := by decide +kernel
theorem dX10_peek_4 : decode cX10_peek 4 = .ok (.aload_n 0, 1) := by decide +kernel
theorem dX10_peek_5 : decode cX10_peek 5 = .ok (.getfield 28, 3) := by decide +kernel
theorem dX10_peek_8 : decode cX10_peek 8 = .ok (.if_icmp .ge 25, 3) := by decide +kernel
theorem dX10_peek_11 : decode cX10_peek 11 = .ok (.aload_n 0, 1) := by decide +kernel
theorem dX10_peek_12 : decode cX10_peek 12 = .ok (.getfield 83, 3) := by decide +kernel
theorem dX10_peek_15 : decode cX10_peek 15 = .ok (.sipush 1500, 3) := by decide +kernel
theorem dX10_peek_18 : decode cX10_peek 18 = .ok (.if_icmp .ge 15, 3) := by decide +kernel
theorem dX10_peek_21 : decode cX10_peek 21 = .ok (.aload_n 0, 1) := by decide +kernel
theorem dX10_peek_22 : decode cX10_peek 22 = .ok (.getfield 9, 3) := by decide +kernel
theorem dX10_peek_25 : decode cX10_peek 25 = .ok (.aload_n 0, 1) := by decide +kernel
theorem dX10_peek_26 : decode cX10_peek 26 = .ok (.getfield 83, 3) := by decide +kernel
theorem dX10_peek_29 : decode cX10_peek 29 = .ok (.iaload, 1) := by decide +kernel
theorem dX10_peek_30 : decode cX10_peek 30 = .ok (.goto 4, 3) := by decide +kernel
theorem dX10_peek_33 : decode cX10_peek 33 = .ok (.iconst 0, 1) := by decide +kernel
theorem dX10_peek_34 : decode cX10_peek 34 = .ok (.ireturn, 1) := by decide +kernel
theorem dX10_peekName_0 : decode cX10_peekName 0 = .ok (.aload_n 0, 1) := by decide +kernel
theorem dX10_peekName_1 : decode cX10_peekName 1 = .ok (.invokevirtual 115, 3) := by decide +kernel
theorem dX10_peekName_4 : decode cX10_peekName 4 = .ok (.bipush 110, 2) := by decide +kernel
theorem dX10_peekName_6 : decode cX10_peekName 6 = .ok (.if_icmp .ne 15, 3) := by decide +kernel
theorem dX10_peekName_9 : decode cX10_peekName 9 = .ok (.aload_n 0, 1) := by decide +kernel
theorem dX10_peekName_10 : decode cX10_peekName 10 = .ok (.getfield 15, 3) := by decide +kernel
theorem dX10_peekName_13 : decode cX10_peekName 13 = .ok (.aload_n 0, 1) := by decide +kernel
theorem dX10_peekName_14 : decode cX10_peekName 14 = .ok (.getfield 83, 3) := by decide +kernel
theorem dX10_peekName_17 : decode cX10_peekName 17 = .ok (.iaload, 1) := by decide +kernel
theorem dX10_peekName_18 : decode cX10_peekName 18 = .ok (.goto 4, 3) := by decide +kernel
theorem dX10_peekName_21 : decode cX10_peekName 21 = .ok (.iconst (-1), 1) := by decide +kernel
theorem dX10_peekName_22 : decode cX10_peekName 22 = .ok (.ireturn, 1) := by decide +kernel
theorem dX10_isSign_0 : decode cX10_isSign 0 = .ok (.aload_n 0, 1) := by decide +kernel
theorem dX10_isSign_1 : decode cX10_isSign 1 = .ok (.getfield 83, 3) := by decide +kernel
theorem dX10_isSign_4 : decode cX10_isSign 4 = .ok (.aload_n 0, 1) := by decide +kernel
theorem dX10_isSign_5 : decode cX10_isSign 5 = .ok (.getfield 28, 3) := by decide +kernel
theorem dX10_isSign_8 : decode cX10_isSign 8 = .ok (.if_icmp .ge 30, 3) := by decide +kernel
theorem dX10_isSign_11 : decode cX10_isSign 11 = .ok (.aload_n 0, 1) := by decide +kernel
theorem dX10_isSign_12 : decode cX10_isSign 12 = .ok (.getfield 83, 3) := by decide +kernel
theorem dX10_isSign_15 : decode cX10_isSign 15 = .ok (.sipush 1500, 3) := by decide +kernel
theorem dX10_isSign_18 : decode cX10_isSign 18 = .ok (.if_icmp .ge 20, 3) := by decide +kernel
theorem dX10_isSign_21 : decode cX10_isSign 21 = .ok (.aload_n 0, 1) := by decide +kernel
theorem dX10_isSign_22 : decode cX10_isSign 22 = .ok (.getfield 9, 3) := by decide +kernel
theorem dX10_isSign_25 : decode cX10_isSign 25 = .ok (.aload_n 0, 1) := by decide +kernel
theorem dX10_isSign_26 : decode cX10_isSign 26 = .ok (.getfield 83, 3) := by decide +kernel
theorem dX10_isSign_29 : decode cX10_isSign 29 = .ok (.iaload, 1) := by decide +kernel
theorem dX10_isSign_30 : decode cX10_isSign 30 = .ok (.iload_n 1, 1) := by decide +kernel
theorem dX10_isSign_31 : decode cX10_isSign 31 = .ok (.if_icmp .ne 7, 3) := by decide +kernel
theorem dX10_isSign_34 : decode cX10_isSign 34 = .ok (.iconst 1, 1) := by decide +kernel
theorem dX10_isSign_35 : decode cX10_isSign 35 = .ok (.goto 4, 3) := by decide +kernel
theorem dX10_isSign_38 : decode cX10_isSign 38 = .ok (.iconst 0, 1) := by decide +kernel
theorem dX10_isSign_39 : decode cX10_isSign 39 = .ok (.istore_n 2, 1) := by decide +kernel
theorem dX10_isSign_40 : decode cX10_isSign 40 = .ok (.aload_n 0, 1) := by decide +kernel
theorem dX10_isSign_41 : decode cX10_isSign 41 = .ok (.dup, 1) := by decide +kernel
theorem dX10_isSign_42 : decode cX10_isSign 42 = .ok (.getfield 83, 3) := by decide +kernel
theorem dX10_isSign_45 : decode cX10_isSign 45 = .ok (.iconst 1, 1) := by decide +kernel
theorem dX10_isSign_46 : decode cX10_isSign 46 = .ok (.iadd, 1) := by decide +kernel
theorem dX10_isSign_47 : decode cX10_isSign 47 = .ok (.putfield 83, 3) := by decide +kernel
theorem dX10_isSign_50 : decode cX10_isSign 50 = .ok (.iload_n 2, 1) := by decide +kernel
theorem dX10_isSign_51 : decode cX10_isSign 51 = .ok (.ireturn, 1) := by decide +kernel
theorem dX10_isName_0 : decode cX10_isName 0 = .ok (.aload_n 0, 1) := by decide +kernel
theorem dX10_isName_1 : decode cX10_isName 1 = .ok (.invokevirtual 119, 3) := by decide +kernel
theorem dX10_isName_4 : decode cX10_isName 4 = .ok (.istore_n 1, 1) := by decide +kernel
theorem dX10_isName_5 : decode cX10_isName 5 = .ok (.aload_n 0, 1) := by decide +kernel
theorem dX10_isName_6 : decode cX10_isName 6 = .ok (.dup, 1) := by decide +kernel
theorem dX10_isName_7 : decode cX10_isName 7 = .ok (.getfield 83, 3) := by decide +kernel
theorem dX10_isName_10 : decode cX10_isName 10 = .ok (.iconst 1, 1) := by decide +kernel
theorem dX10_isName_11 : decode cX10_isName 11 = .ok (.iadd, 1) := by decide +kernel
theorem dX10_isName_12 : decode cX10_isName 12 = .ok (.putfield 83, 3) := by decide +kernel
theorem dX10_isName_15 : decode cX10_isName 15 = .ok (.iload_n 1, 1) := by decide +kernel
theorem dX10_isName_16 : decode cX10_isName 16 = .ok (.iconst 2, 1) := by decide +kernel
theorem dX10_isName_17 : decode cX10_isName 17 = .ok (.if_icmp .le 15, 3) := by decide +kernel
theorem dX10_isName_20 : decode cX10_isName 20 = .ok (.aload_n 0, 1) := by decide +kernel
theorem dX10_isName_21 : decode cX10_isName 21 = .ok (.getfield 86, 3) := by decide +kernel
theorem dX10_isName_24 : decode cX10_isName 24 = .ok (.aload_n 0, 1) := by decide +kernel
theorem dX10_isName_25 : decode cX10_isName 25 = .ok (.getfield 18, 3) := by decide +kernel
theorem dX10_isName_28 : decode cX10_isName 28 = .ok (.arraylength, 1) := by decide +kernel
theorem dX10_isName_29 : decode cX10_isName 29 = .ok (.if_icmp .lt 5, 3) := by decide +kernel
theorem dX10_isName_32 : decode cX10_isName 32 = .ok (.iconst 0, 1) := by decide +kernel
theorem dX10_isName_33 : decode cX10_isName 33 = .ok (.ireturn, 1) := by decide +kernel
theorem dX10_isName_34 : decode cX10_isName 34 = .ok (.aload_n 0, 1) := by decide +kernel
theorem dX10_isName_35 : decode cX10_isName 35 = .ok (.getfield 18, 3) := by decide +kernel
theorem dX10_isName_38 : decode cX10_isName 38 = .ok (.aload_n 0, 1) := by decide +kernel
theorem dX10_isName_39 : decode cX10_isName 39 = .ok (.getfield 86, 3) := by decide +kernel
theorem dX10_isName_42 : decode cX10_isName 42 = .ok (.iload_n 1, 1) := by decide +kernel
theorem dX10_isName_43 : decode cX10_isName 43 = .ok (.iastore, 1) := by decide +kernel
theorem dX10_isName_44 : decode cX10_isName 44 = .ok (.aload_n 0, 1) := by decide +kernel
theorem dX10_isName_45 : decode cX10_isName 45 = .ok (.dup, 1) := by decide +kernel
theorem dX10_isName_46 : decode cX10_isName 46 = .ok (.getfield 86, 3) := by decide +kernel
theorem dX10_isName_49 : decode cX10_isName 49 = .ok (.iconst 1, 1) := by decide +kernel
theorem dX10_isName_50 : decode cX10_isName 50 = .ok (.iadd, 1) := by decide +kernel
theorem dX10_isName_51 : decode cX10_isName 51 = .ok (.putfield 86, 3) := by decide +kernel
theorem dX10_isName_54 : decode cX10_isName 54 = .ok (.iconst 1, 1) := by decide +kernel
theorem dX10_isName_55 : decode cX10_isName 55 = .ok (.ireturn, 1) := by decide +kernel
theorem dX10_isArity_0 : decode cX10_isArity 0 = .ok (.aload_n 0, 1) := by decide +kernel
theorem dX10_isArity_1 : decode cX10_isArity 1 = .ok (.aload_n 0, 1) := by decide +kernel
theorem dX10_isArity_2 : decode cX10_isArity 2 = .ok (.invokevirtual 115, 3) := by decide +kernel
theorem dX10_isArity_5 : decode cX10_isArity 5 = .ok (.bipush 100, 2) := by decide +kernel
theorem dX10_isArity_7 : decode cX10_isArity 7 = .ok (.if_icmp .ne 15, 3) := by decide +kernel
theorem dX10_isArity_10 : decode cX10_isArity 10 = .ok (.aload_n 0, 1) := by decide +kernel
theorem dX10_isArity_11 : decode cX10_isArity 11 = .ok (.getfield 15, 3) := by decide +kernel
theorem dX10_isArity_14 : decode cX10_isArity 14 = .ok (.aload_n 0, 1) := by decide +kernel
theorem dX10_isArity_15 : decode cX10_isArity 15 = .ok (.getfield 83, 3) := by decide +kernel
theorem dX10_isArity_18 : decode cX10_isArity 18 = .ok (.iaload, 1) := by decide +kernel
theorem dX10_isArity_19 : decode cX10_isArity 19 = .ok (.goto 4, 3) := by decide +kernel
theorem dX10_isArity_22 : decode cX10_isArity 22 = .ok (.iconst (-1), 1) := by decide +kernel
theorem dX10_isArity_23 : decode cX10_isArity 23 = .ok (.putfield 92, 3) := by decide +kernel
theorem dX10_isArity_26 : decode cX10_isArity 26 = .ok (.aload_n 0, 1) := by decide +kernel
theorem dX10_isArity_27 : decode cX10_isArity 27 = .ok (.dup, 1) := by decide +kernel
theorem dX10_isArity_28 : decode cX10_isArity 28 = .ok (.getfield 83, 3) := by decide +kernel
theorem dX10_isArity_31 : decode cX10_isArity 31 = .ok (.iconst 1, 1) := by decide +kernel
theorem dX10_isArity_32 : decode cX10_isArity 32 = .ok (.iadd, 1) := by decide +kernel
theorem dX10_isArity_33 : decode cX10_isArity 33 = .ok (.putfield 83, 3) := by decide +kernel
theorem dX10_isArity_36 : decode cX10_isArity 36 = .ok (.aload_n 0, 1) := by decide +kernel
theorem dX10_isArity_37 : decode cX10_isArity 37 = .ok (.getfield 92, 3) := by decide +kernel
theorem dX10_isArity_40 : decode cX10_isArity 40 = .ok (.ifCond .lt 15, 3) := by decide +kernel
theorem dX10_isArity_43 : decode cX10_isArity 43 = .ok (.aload_n 0, 1) := by decide +kernel
theorem dX10_isArity_44 : decode cX10_isArity 44 = .ok (.getfield 92, 3) := by decide +kernel
theorem dX10_isArity_47 : decode cX10_isArity 47 = .ok (.iconst 3, 1) := by decide +kernel
theorem dX10_isArity_48 : decode cX10_isArity 48 = .ok (.if_icmp .gt 7, 3) := by decide +kernel
theorem dX10_isArity_51 : decode cX10_isArity 51 = .ok (.iconst 1, 1) := by decide +kernel
theorem dX10_isArity_52 : decode cX10_isArity 52 = .ok (.goto 4, 3) := by decide +kernel
theorem dX10_isArity_55 : decode cX10_isArity 55 = .ok (.iconst 0, 1) := by decide +kernel
theorem dX10_isArity_56 : decode cX10_isArity 56 = .ok (.ireturn, 1) := by decide +kernel
theorem dX10_addNode_0 : decode cX10_addNode 0 = .ok (.aload_n 0, 1) := by decide +kernel
theorem dX10_addNode_1 : decode cX10_addNode 1 = .ok (.getfield 89, 3) := by decide +kernel
theorem dX10_addNode_4 : decode cX10_addNode 4 = .ok (.sipush 3000, 3) := by decide +kernel
theorem dX10_addNode_7 : decode cX10_addNode 7 = .ok (.if_icmp .lt 5, 3) := by decide +kernel
theorem dX10_addNode_10 : decode cX10_addNode 10 = .ok (.iconst 0, 1) := by decide +kernel
theorem dX10_addNode_11 : decode cX10_addNode 11 = .ok (.ireturn, 1) := by decide +kernel
theorem dX10_addNode_12 : decode cX10_addNode 12 = .ok (.aload_n 0, 1) := by decide +kernel
theorem dX10_addNode_13 : decode cX10_addNode 13 = .ok (.getfield 21, 3) := by decide +kernel
theorem dX10_addNode_16 : decode cX10_addNode 16 = .ok (.aload_n 0, 1) := by decide +kernel
theorem dX10_addNode_17 : decode cX10_addNode 17 = .ok (.getfield 89, 3) := by decide +kernel
theorem dX10_addNode_20 : decode cX10_addNode 20 = .ok (.iload_n 1, 1) := by decide +kernel
theorem dX10_addNode_21 : decode cX10_addNode 21 = .ok (.iastore, 1) := by decide +kernel
theorem dX10_addNode_22 : decode cX10_addNode 22 = .ok (.aload_n 0, 1) := by decide +kernel
theorem dX10_addNode_23 : decode cX10_addNode 23 = .ok (.dup, 1) := by decide +kernel
theorem dX10_addNode_24 : decode cX10_addNode 24 = .ok (.getfield 89, 3) := by decide +kernel
theorem dX10_addNode_27 : decode cX10_addNode 27 = .ok (.iconst 1, 1) := by decide +kernel
theorem dX10_addNode_28 : decode cX10_addNode 28 = .ok (.iadd, 1) := by decide +kernel
theorem dX10_addNode_29 : decode cX10_addNode 29 = .ok (.putfield 89, 3) := by decide +kernel
theorem dX10_addNode_32 : decode cX10_addNode 32 = .ok (.iconst 1, 1) := by decide +kernel
theorem dX10_addNode_33 : decode cX10_addNode 33 = .ok (.ireturn, 1) := by decide +kernel
theorem dX10_insertNode_0 : decode cX10_insertNode 0 = .ok (.iload_n 1, 1) := by decide +kernel
theorem dX10_insertNode_1 : decode cX10_insertNode 1 = .ok (.ifCond .lt 21, 3) := by decide +kernel
theorem dX10_insertNode_4 : decode cX10_insertNode 4 = .ok (.iload_n 1, 1) := by decide +kernel
theorem dX10_insertNode_5 : decode cX10_insertNode 5 = .ok (.aload_n 0, 1) := by decide +kernel
theorem dX10_insertNode_6 : decode cX10_insertNode 6 = .ok (.getfield 89, 3) := by decide +kernel
theorem dX10_insertNode_9 : decode cX10_insertNode 9 = .ok (.if_icmp .gt 13, 3) := by decide +kernel
theorem dX10_insertNode_12 : decode cX10_insertNode 12 = .ok (.aload_n 0, 1) := by decide +kernel
theorem dX10_insertNode_13 : decode cX10_insertNode 13 = .ok (.getfield 89, 3) := by decide +kernel
theorem dX10_insertNode_16 : decode cX10_insertNode 16 = .ok (.sipush 3000, 3) := by decide +kernel
theorem dX10_insertNode_19 : decode cX10_insertNode 19 = .ok (.if_icmp .lt 5, 3) := by decide +kernel
theorem dX10_insertNode_22 : decode cX10_insertNode 22 = .ok (.iconst 0, 1) := by decide +kernel
theorem dX10_insertNode_23 : decode cX10_insertNode 23 = .ok (.ireturn, 1) := by decide +kernel
theorem dX10_insertNode_24 : decode cX10_insertNode 24 = .ok (.aload_n 0, 1) := by decide +kernel
theorem dX10_insertNode_25 : decode cX10_insertNode 25 = .ok (.getfield 89, 3) := by decide +kernel
theorem dX10_insertNode_28 : decode cX10_insertNode 28 = .ok (.istore_n 3, 1) := by decide +kernel
theorem dX10_insertNode_29 : decode cX10_insertNode 29 = .ok (.iload_n 3, 1) := by decide +kernel
theorem dX10_insertNode_30 : decode cX10_insertNode 30 = .ok (.iload_n 1, 1) := by decide +kernel
theorem dX10_insertNode_31 : decode cX10_insertNode 31 = .ok (.if_icmp .le 23, 3) := by decide +kernel
theorem dX10_insertNode_34 : decode cX10_insertNode 34 = .ok (.aload_n 0, 1) := by decide +kernel
theorem dX10_insertNode_35 : decode cX10_insertNode 35 = .ok (.getfield 21, 3) := by decide +kernel
theorem dX10_insertNode_38 : decode cX10_insertNode 38 = .ok (.iload_n 3, 1) := by decide +kernel
theorem dX10_insertNode_39 : decode cX10_insertNode 39 = .ok (.aload_n 0, 1) := by decide +kernel
theorem dX10_insertNode_40 : decode cX10_insertNode 40 = .ok (.getfield 21, 3) := by decide +kernel
theorem dX10_insertNode_43 : decode cX10_insertNode 43 = .ok (.iload_n 3, 1) := by decide +kernel
theorem dX10_insertNode_44 : decode cX10_insertNode 44 = .ok (.iconst 1, 1) := by decide +kernel
theorem dX10_insertNode_45 : decode cX10_insertNode 45 = .ok (.isub, 1) := by decide +kernel
theorem dX10_insertNode_46 : decode cX10_insertNode 46 = .ok (.iaload, 1) := by decide +kernel
theorem dX10_insertNode_47 : decode cX10_insertNode 47 = .ok (.iastore, 1) := by decide +kernel
theorem dX10_insertNode_48 : decode cX10_insertNode 48 = .ok (.iinc 3 (-1), 3) := by decide +kernel
theorem dX10_insertNode_51 : decode cX10_insertNode 51 = .ok (.goto (-22), 3) := by decide +kernel
theorem dX10_insertNode_54 : decode cX10_insertNode 54 = .ok (.aload_n 0, 1) := by decide +kernel
theorem dX10_insertNode_55 : decode cX10_insertNode 55 = .ok (.getfield 21, 3) := by decide +kernel
theorem dX10_insertNode_58 : decode cX10_insertNode 58 = .ok (.iload_n 1, 1) := by decide +kernel
theorem dX10_insertNode_59 : decode cX10_insertNode 59 = .ok (.iload_n 2, 1) := by decide +kernel
theorem dX10_insertNode_60 : decode cX10_insertNode 60 = .ok (.iastore, 1) := by decide +kernel
theorem dX10_insertNode_61 : decode cX10_insertNode 61 = .ok (.aload_n 0, 1) := by decide +kernel
theorem dX10_insertNode_62 : decode cX10_insertNode 62 = .ok (.dup, 1) := by decide +kernel
theorem dX10_insertNode_63 : decode cX10_insertNode 63 = .ok (.getfield 89, 3) := by decide +kernel
theorem dX10_insertNode_66 : decode cX10_insertNode 66 = .ok (.iconst 1, 1) := by decide +kernel
theorem dX10_insertNode_67 : decode cX10_insertNode 67 = .ok (.iadd, 1) := by decide +kernel
theorem dX10_insertNode_68 : decode cX10_insertNode 68 = .ok (.putfield 89, 3) := by decide +kernel
theorem dX10_insertNode_71 : decode cX10_insertNode 71 = .ok (.iconst 1, 1) := by decide +kernel
theorem dX10_insertNode_72 : decode cX10_insertNode 72 = .ok (.ireturn, 1) := by decide +kernel
theorem dX11_opensComment_0 : decode cX11_opensComment 0 = .ok (.iload_n 1, 1) := by decide +kernel
theorem dX11_opensComment_1 : decode cX11_opensComment 1 = .ok (.ifCond .lt 38, 3) := by decide +kernel
theorem dX11_opensComment_4 : decode cX11_opensComment 4 = .ok (.iload_n 1, 1) := by decide +kernel
theorem dX11_opensComment_5 : decode cX11_opensComment 5 = .ok (.iconst 1, 1) := by decide +kernel
theorem dX11_opensComment_6 : decode cX11_opensComment 6 = .ok (.iadd, 1) := by decide +kernel
theorem dX11_opensComment_7 : decode cX11_opensComment 7 = .ok (.iload_n 2, 1) := by decide +kernel
theorem dX11_opensComment_8 : decode cX11_opensComment 8 = .ok (.if_icmp .ge 31, 3) := by decide +kernel
theorem dX11_opensComment_11 : decode cX11_opensComment 11 = .ok (.iload_n 2, 1) := by decide +kernel
theorem dX11_opensComment_12 : decode cX11_opensComment 12 = .ok (.aload_n 0, 1) := by decide +kernel
theorem dX11_opensComment_13 : decode cX11_opensComment 13 = .ok (.arraylength, 1) := by decide +kernel
theorem dX11_opensComment_14 : decode cX11_opensComment 14 = .ok (.if_icmp .gt 25, 3) := by decide +kernel
theorem dX11_opensComment_17 : decode cX11_opensComment 17 = .ok (.aload_n 0, 1) := by decide +kernel
theorem dX11_opensComment_18 : decode cX11_opensComment 18 = .ok (.iload_n 1, 1) := by decide +kernel
theorem dX11_opensComment_19 : decode cX11_opensComment 19 = .ok (.iaload, 1) := by decide +kernel
theorem dX11_opensComment_20 : decode cX11_opensComment 20 = .ok (.bipush 40, 2) := by decide +kernel
theorem dX11_opensComment_22 : decode cX11_opensComment 22 = .ok (.if_icmp .ne 17, 3) := by decide +kernel
theorem dX11_opensComment_25 : decode cX11_opensComment 25 = .ok (.aload_n 0, 1) := by decide +kernel
theorem dX11_opensComment_26 : decode cX11_opensComment 26 = .ok (.iload_n 1, 1) := by decide +kernel
theorem dX11_opensComment_27 : decode cX11_opensComment 27 = .ok (.iconst 1, 1) := by decide +kernel
theorem dX11_opensComment_28 : decode cX11_opensComment 28 = .ok (.iadd, 1) := by decide +kernel
theorem dX11_opensComment_29 : decode cX11_opensComment 29 = .ok (.iaload, 1) := by decide +kernel
theorem dX11_opensComment_30 : decode cX11_opensComment 30 = .ok (.bipush 42, 2) := by decide +kernel
theorem dX11_opensComment_32 : decode cX11_opensComment 32 = .ok (.if_icmp .ne 7, 3) := by decide +kernel
theorem dX11_opensComment_35 : decode cX11_opensComment 35 = .ok (.iconst 1, 1) := by decide +kernel
theorem dX11_opensComment_36 : decode cX11_opensComment 36 = .ok (.goto 4, 3) := by decide +kernel
theorem dX11_opensComment_39 : decode cX11_opensComment 39 = .ok (.iconst 0, 1) := by decide +kernel
theorem dX11_opensComment_40 : decode cX11_opensComment 40 = .ok (.ireturn, 1) := by decide +kernel
theorem dX11_commentEnd_0 : decode cX11_commentEnd 0 = .ok (.aload_n 0, 1) := by decide +kernel
theorem dX11_commentEnd_1 : decode cX11_commentEnd 1 = .ok (.iload_n 1, 1) := by decide +kernel
theorem dX11_commentEnd_2 : decode cX11_commentEnd 2 = .ok (.iload_n 2, 1) := by decide +kernel
theorem dX11_commentEnd_3 : decode cX11_commentEnd 3 = .ok (.invokestatic 609, 3) := by decide +kernel
theorem dX11_commentEnd_6 : decode cX11_commentEnd 6 = .ok (.ifCond .ne 5, 3) := by decide +kernel
theorem dX11_commentEnd_9 : decode cX11_commentEnd 9 = .ok (.iconst (-1), 1) := by decide +kernel
theorem dX11_commentEnd_10 : decode cX11_commentEnd 10 = .ok (.ireturn, 1) := by decide +kernel
theorem dX11_commentEnd_11 : decode cX11_commentEnd 11 = .ok (.iconst 1, 1) := by decide +kernel
theorem dX11_commentEnd_12 : decode cX11_commentEnd 12 = .ok (.istore_n 3, 1) := by decide +kernel
theorem dX11_commentEnd_13 : decode cX11_commentEnd 13 = .ok (.iload_n 1, 1) := by decide +kernel
theorem dX11_commentEnd_14 : decode cX11_commentEnd 14 = .ok (.iconst 2, 1) := by decide +kernel
theorem dX11_commentEnd_15 : decode cX11_commentEnd 15 = .ok (.iadd, 1) := by decide +kernel
theorem dX11_commentEnd_16 : decode cX11_commentEnd 16 = .ok (.istore 4, 2) := by decide +kernel
theorem dX11_commentEnd_18 : decode cX11_commentEnd 18 = .ok (.iload 4, 2) := by decide +kernel
theorem dX11_commentEnd_20 : decode cX11_commentEnd 20 = .ok (.iconst 1, 1) := by decide +kernel
theorem dX11_commentEnd_21 : decode cX11_commentEnd 21 = .ok (.iadd, 1) := by decide +kernel
theorem dX11_commentEnd_22 : decode cX11_commentEnd 22 = .ok (.iload_n 2, 1) := by decide +kernel
theorem dX11_commentEnd_23 : decode cX11_commentEnd 23 = .ok (.if_icmp .ge 73, 3) := by decide +kernel
theorem dX11_commentEnd_26 : decode cX11_commentEnd 26 = .ok (.aload_n 0, 1) := by decide +kernel
theorem dX11_commentEnd_27 : decode cX11_commentEnd 27 = .ok (.iload 4, 2) := by decide +kernel
theorem dX11_commentEnd_29 : decode cX11_commentEnd 29 = .ok (.iaload, 1) := by decide +kernel
theorem dX11_commentEnd_30 : decode cX11_commentEnd 30 = .ok (.bipush 40, 2) := by decide +kernel
theorem dX11_commentEnd_32 : decode cX11_commentEnd 32 = .ok (.if_icmp .ne 23, 3) := by decide +kernel
theorem dX11_commentEnd_35 : decode cX11_commentEnd 35 = .ok (.aload_n 0, 1) := by decide +kernel
theorem dX11_commentEnd_36 : decode cX11_commentEnd 36 = .ok (.iload 4, 2) := by decide +kernel
theorem dX11_commentEnd_38 : decode cX11_commentEnd 38 = .ok (.iconst 1, 1) := by decide +kernel
theorem dX11_commentEnd_39 : decode cX11_commentEnd 39 = .ok (.iadd, 1) := by decide +kernel
theorem dX11_commentEnd_40 : decode cX11_commentEnd 40 = .ok (.iaload, 1) := by decide +kernel
theorem dX11_commentEnd_41 : decode cX11_commentEnd 41 = .ok (.bipush 42, 2) := by decide +kernel
theorem dX11_commentEnd_43 : decode cX11_commentEnd 43 = .ok (.if_icmp .ne 12, 3) := by decide +kernel
theorem dX11_commentEnd_46 : decode cX11_commentEnd 46 = .ok (.iinc 3 1, 3) := by decide +kernel
theorem dX11_commentEnd_49 : decode cX11_commentEnd 49 = .ok (.iinc 4 1, 3) := by decide +kernel
theorem dX11_commentEnd_52 : decode cX11_commentEnd 52 = .ok (.goto 38, 3) := by decide +kernel
theorem dX11_commentEnd_55 : decode cX11_commentEnd 55 = .ok (.aload_n 0, 1) := by decide +kernel
theorem dX11_commentEnd_56 : decode cX11_commentEnd 56 = .ok (.iload 4, 2) := by decide +kernel
theorem dX11_commentEnd_58 : decode cX11_commentEnd 58 = .ok (.iaload, 1) := by decide +kernel
theorem dX11_commentEnd_59 : decode cX11_commentEnd 59 = .ok (.bipush 42, 2) := by decide +kernel
theorem dX11_commentEnd_61 : decode cX11_commentEnd 61 = .ok (.if_icmp .ne 29, 3) := by decide +kernel
theorem dX11_commentEnd_64 : decode cX11_commentEnd 64 = .ok (.aload_n 0, 1) := by decide +kernel
theorem dX11_commentEnd_65 : decode cX11_commentEnd 65 = .ok (.iload 4, 2) := by decide +kernel
theorem dX11_commentEnd_67 : decode cX11_commentEnd 67 = .ok (.iconst 1, 1) := by decide +kernel
theorem dX11_commentEnd_68 : decode cX11_commentEnd 68 = .ok (.iadd, 1) := by decide +kernel
theorem dX11_commentEnd_69 : decode cX11_commentEnd 69 = .ok (.iaload, 1) := by decide +kernel
theorem dX11_commentEnd_70 : decode cX11_commentEnd 70 = .ok (.bipush 41, 2) := by decide +kernel
theorem dX11_commentEnd_72 : decode cX11_commentEnd 72 = .ok (.if_icmp .ne 18, 3) := by decide +kernel
theorem dX11_commentEnd_75 : decode cX11_commentEnd 75 = .ok (.iinc 3 (-1), 3) := by decide +kernel
theorem dX11_commentEnd_78 : decode cX11_commentEnd 78 = .ok (.iinc 4 1, 3) := by decide +kernel
theorem dX11_commentEnd_81 : decode cX11_commentEnd 81 = .ok (.iload_n 3, 1) := by decide +kernel
theorem dX11_commentEnd_82 : decode cX11_commentEnd 82 = .ok (.ifCond .ne 8, 3) := by decide +kernel
theorem dX11_commentEnd_85 : decode cX11_commentEnd 85 = .ok (.iload 4, 2) := by decide +kernel
theorem dX11_commentEnd_87 : decode cX11_commentEnd 87 = .ok (.iconst 1, 1) := by decide +kernel
theorem dX11_commentEnd_88 : decode cX11_commentEnd 88 = .ok (.iadd, 1) := by decide +kernel
theorem dX11_commentEnd_89 : decode cX11_commentEnd 89 = .ok (.ireturn, 1) := by decide +kernel
theorem dX11_commentEnd_90 : decode cX11_commentEnd 90 = .ok (.iinc 4 1, 3) := by decide +kernel
theorem dX11_commentEnd_93 : decode cX11_commentEnd 93 = .ok (.goto (-75), 3) := by decide +kernel
theorem dX11_commentEnd_96 : decode cX11_commentEnd 96 = .ok (.iconst (-1), 1) := by decide +kernel
theorem dX11_commentEnd_97 : decode cX11_commentEnd 97 = .ok (.ireturn, 1) := by decide +kernel
def EX11_opensComment : List (Nat × Nat) := []
def EX11_commentEnd : List (Nat × Nat) := []
def EX6_find : List (Nat × Nat) := [(8, 3), (102, 0), (132, 0), (133, 0)]
def EX6_numberOf : List (Nat × Nat) := [(8, 3), (102, 0), (132, 0), (133, 0)]
def EX10_peek : List (Nat × Nat) := []
def EX10_peekName : List (Nat × Nat) := []
def EX10_isSign : List (Nat × Nat) := [(12, 4)]
def EX10_isName : List (Nat × Nat) := [(12, 4), (12, 7), (101, 0)]
def EX10_isArity : List (Nat × Nat) := [(12, 4), (12, 8)]
def EX10_addNode : List (Nat × Nat) := [(12, 10), (101, 0)]
def EX10_insertNode : List (Nat × Nat) := [(12, 10), (101, 0)]
def EX10_add : List (Nat × Nat) := [(12, 3), (101, 0)]
def EX10_scanName : List (Nat × Nat) := [(8, 3), (12, 3), (101, 0), (102, 0), (132, 0), (133, 0)]
def EX10_scan : List (Nat × Nat) := [(8, 3), (12, 3), (101, 0), (102, 0), (132, 0), (133, 0)]
set_option maxHeartbeats 4000000 in
set_option maxRecDepth 20000 in
theorem uX11_opensComment (l : Launch) (dC : Nat → ClassId) (dI : Nat → Nat → Nat) (ca : Nat → ClassId) (base : Nat) (B : jF) (hB : jBok B) (hAp : jAp (dC, dI)) (hB101 : ∀ n G a H, B 101 n G a H ↔ jAr (dC, dI) (ca 1) (fun j z => True) n a H) (G0 : jT) (H0 : Heap) (r0 : Nat) (a1 : Int32) (a2 : Int32) (n0 : Nat) : Met l yX11_opensComment (jw yX11_opensComment cX11_opensComment 3 (some .boolean)) ({ frames := 0, cells := 0, slots := 0, locals := 0 }) (va_Pc [.ref r0, .int a1, .int a2] (fun U => U.heap = H0 ∧ jX B base G0 [] H0 ∧ jG dC dI ca base U ∧ G0 r0 = some (101, n0) ∧ jP (dC, dI) G0 H0 [] ∧ n0 < 1000000 ∧ a1.toInt ≤ 1000000)) (va_Qi (S := Unit) (fun r u => (r = 0 ∨ r = 1) ∧ (r.toInt = 0 ∨ (0 ≤ a1.toInt ∧ a1.toInt + 1 < a2.toInt ∧ a2.toInt ≤ n0))) (fun u t => jRt (dC, dI) B base G0 EX11_opensComment H0 [] t.heap) (jA base)) 0 0 (jA base) := by
  refine Met.ofW (cc := cX11_opensComment) (maxL := 3) (ret := (some .boolean)) (by decide) rfl ?_
  intro p e s m args below meth c s₁ Bd hml hv
  obtain ⟨rfl, hH0, hX, hG, hg_r0, hP0, hp0, hp1⟩ := hv
  have hK := hG.1
  have hx := Bd.exec
  have hb := Bd.bytes
  have hr := Bd.returns
  have hts := atoms_spec (ws := (jw yX11_opensComment cX11_opensComment 3 (some .boolean))) Bd.pre
  have htw : ∀ w ∈ jWl, w.before _ s = true := fun w h => hts w (List.mem_cons_of_mem _ h)
  have hown : s.vm.findClass RX11 = some m.cls := findClass_of_methodNamed Bd.named
  have hlocks := Bd.notSynchronized
  obtain ⟨Q, hQ⟩ : ∃ Q, Q = MQ below (va_Qi (S := Unit) (fun r u => (r = 0 ∨ r = 1) ∧ (r.toInt = 0 ∨ (0 ≤ a1.toInt ∧ a1.toInt + 1 < a2.toInt ∧ a2.toInt ≤ n0))) (fun u t => jRt (dC, dI) B base G0 EX11_opensComment H0 [] t.heap) (jA base)) ([.ref r0, .int a1, .int a2] : List Value).toArray s 0 0 (jA base) := ⟨_, rfl⟩
  rw [← hQ]
  have hl := lv_entry ([.ref r0, .int a1, .int a2]) (n := 3) (Nat.le_of_ble_eq_true rfl)
  rw [lg_entry_eq]
  generalize (lg_sl ([.ref r0, .int a1, .int a2]) ++ List.replicate (3 - (lg_sl ([.ref r0, .int a1, .int a2])).length) Slot.unset).toArray = ls at hl ⊢
  have hl : lv_has ls 3 [(0, .ref r0), (1, .int a1), (2, .int a2)] := hl
  generalize hR : (headSpec (jw yX11_opensComment cX11_opensComment 3 (some .boolean)) ({ frames := 0, cells := 0, slots := 0, locals := 0 })).room = R
  subst hH0
  have hh : jSt (dC, dI) B base G0 G0 EX11_opensComment s.heap 0 0 [] [] [] s.heap [] := jSt.start hX hP0 jMc.nil jIs.nil
  clear hX hP0
  have hk0 : (0 : Int32).toInt = 0 := by decide
  have hk1 : (1 : Int32).toInt = 1 := by decide
  have hk40 : (40 : Int32).toInt = 40 := by decide
  have hk42 : (42 : Int32).toInt = 42 := by decide
  have hrg_a1 := jb_rng a1
  have hrg_a2 := jb_rng a2
  refine lv_iload_n hx hb dX11_opensComment_0 rfl (lv_at hl 1 rfl) ?_
  refine lv_if_lt (tgt := 39) hx hb dX11_opensComment_1 (by decide) (fun c_1 => ?_) (fun c_1 => ?_)
  · skip
    have c_1' : a1.toInt < 0 := jb_lt (rfl) ((by decide)) c_1
    refine lv_iconst (v := 0) hx hb dX11_opensComment_39 (by decide) ?_
    rw [hQ]
    exact W.zret (v := 0) hx hb hr (jb_nz (Or.inl rfl)) (fun t ht hW => ⟨⟨0, (), rfl, ⟨(Or.inl rfl), by first | omega | rfl | assumption | decide | exact Or.inl rfl | exact Or.inr rfl | (simp only; omega)⟩, hh.rt (M1 := []) [] rfl ht⟩, by rw [ht]; try exact hh.1.1, fun q h9 hq => by rw [ht]; try exact hh.1.2.1 q h9 hq⟩) hh.1.2.2 dX11_opensComment_40
  · skip
    have c_1' : a1.toInt ≥ 0 := jb_lt_n (rfl) ((by decide)) c_1
    refine lv_iload_n hx hb dX11_opensComment_4 rfl (lv_at hl 1 rfl) ?_
    refine lv_iconst (v := 1) hx hb dX11_opensComment_5 (by decide) ?_
    refine lv_iadd hx hb dX11_opensComment_6 ?_
    refine lv_topi (fun z_2 ez_2 => ?_)
    have hz_2 : z_2.toInt = a1.toInt + 1 := by rw [ez_2]; exact jb_iadd2 (rfl) ((by decide)) (by omega)
    refine lv_iload_n hx hb dX11_opensComment_7 rfl (lv_at hl 2 rfl) ?_
    refine lv_icmp_ge (tgt := 39) hx hb dX11_opensComment_8 (by decide) (fun c_3 => ?_) (fun c_3 => ?_)
    · skip
      have c_3' : z_2.toInt ≥ a2.toInt := jb_ge (rfl) (rfl) c_3
      refine lv_iconst (v := 0) hx hb dX11_opensComment_39 (by decide) ?_
      rw [hQ]
      exact W.zret (v := 0) hx hb hr (jb_nz (Or.inl rfl)) (fun t ht hW => ⟨⟨0, (), rfl, ⟨(Or.inl rfl), by first | omega | rfl | assumption | decide | exact Or.inl rfl | exact Or.inr rfl | (simp only; omega)⟩, hh.rt (M1 := []) [] rfl ht⟩, by rw [ht]; try exact hh.1.1, fun q h9 hq => by rw [ht]; try exact hh.1.2.1 q h9 hq⟩) hh.1.2.2 dX11_opensComment_40
    · skip
      have c_3' : z_2.toInt < a2.toInt := jb_ge_n (rfl) (rfl) c_3
      refine lv_iload_n hx hb dX11_opensComment_11 rfl (lv_at hl 2 rfl) ?_
      refine lv_aload_n hx hb dX11_opensComment_12 rfl (lv_at hl 0 rfl) ?_
      refine j7_len hx hb hK hh hB101 1 rfl (by decide) hg_r0 (by omega) dX11_opensComment_13 (fun z_4 hz_4 => ?_)
      refine lv_icmp_gt (tgt := 39) hx hb dX11_opensComment_14 (by decide) (fun c_5 => ?_) (fun c_5 => ?_)
      · skip
        have c_5' : a2.toInt > z_4.toInt := jb_gt (rfl) (rfl) c_5
        refine lv_iconst (v := 0) hx hb dX11_opensComment_39 (by decide) ?_
        rw [hQ]
        exact W.zret (v := 0) hx hb hr (jb_nz (Or.inl rfl)) (fun t ht hW => ⟨⟨0, (), rfl, ⟨(Or.inl rfl), by first | omega | rfl | assumption | decide | exact Or.inl rfl | exact Or.inr rfl | (simp only; omega)⟩, hh.rt (M1 := []) [] rfl ht⟩, by rw [ht]; try exact hh.1.1, fun q h9 hq => by rw [ht]; try exact hh.1.2.1 q h9 hq⟩) hh.1.2.2 dX11_opensComment_40
      · skip
        have c_5' : a2.toInt ≤ z_4.toInt := jb_gt_n (rfl) (rfl) c_5
        refine lv_aload_n hx hb dX11_opensComment_17 rfl (lv_at hl 0 rfl) ?_
        refine lv_iload_n hx hb dX11_opensComment_18 rfl (lv_at hl 1 rfl) ?_
        refine j7_iald hx hb hK hh hB101 1 rfl (by decide) hg_r0 (x := a1.toInt) (rfl) (by omega) dX11_opensComment_19 (fun z_6 (hz_6 : True) => ?_)
        refine lv_bipush (v := 40) hx hb dX11_opensComment_20 (by decide) ?_
        refine lv_icmp_ne (tgt := 39) hx hb dX11_opensComment_22 (by decide) (fun c_7 => ?_) (fun c_7 => ?_)
        · skip
          have c_7' : z_6.toInt ≠ 40 := jb_ne (rfl) ((by decide)) c_7
          refine lv_iconst (v := 0) hx hb dX11_opensComment_39 (by decide) ?_
          rw [hQ]
          exact W.zret (v := 0) hx hb hr (jb_nz (Or.inl rfl)) (fun t ht hW => ⟨⟨0, (), rfl, ⟨(Or.inl rfl), by first | omega | rfl | assumption | decide | exact Or.inl rfl | exact Or.inr rfl | (simp only; omega)⟩, hh.rt (M1 := []) [] rfl ht⟩, by rw [ht]; try exact hh.1.1, fun q h9 hq => by rw [ht]; try exact hh.1.2.1 q h9 hq⟩) hh.1.2.2 dX11_opensComment_40
        · skip
          have c_7' : z_6.toInt = 40 := jb_ne_n (rfl) ((by decide)) c_7
          refine lv_aload_n hx hb dX11_opensComment_25 rfl (lv_at hl 0 rfl) ?_
          refine lv_iload_n hx hb dX11_opensComment_26 rfl (lv_at hl 1 rfl) ?_
          refine lv_iconst (v := 1) hx hb dX11_opensComment_27 (by decide) ?_
          refine lv_iadd hx hb dX11_opensComment_28 ?_
          refine lv_topi (fun z_8 ez_8 => ?_)
          have hz_8 : z_8.toInt = a1.toInt + 1 := by rw [ez_8]; exact jb_iadd2 (rfl) ((by decide)) (by omega)
          refine j7_iald hx hb hK hh hB101 1 rfl (by decide) hg_r0 (x := z_8.toInt) (rfl) (by omega) dX11_opensComment_29 (fun z_9 (hz_9 : True) => ?_)
          refine lv_bipush (v := 42) hx hb dX11_opensComment_30 (by decide) ?_
          refine lv_icmp_ne (tgt := 39) hx hb dX11_opensComment_32 (by decide) (fun c_10 => ?_) (fun c_10 => ?_)
          · skip
            have c_10' : z_9.toInt ≠ 42 := jb_ne (rfl) ((by decide)) c_10
            refine lv_iconst (v := 0) hx hb dX11_opensComment_39 (by decide) ?_
            rw [hQ]
            exact W.zret (v := 0) hx hb hr (jb_nz (Or.inl rfl)) (fun t ht hW => ⟨⟨0, (), rfl, ⟨(Or.inl rfl), by first | omega | rfl | assumption | decide | exact Or.inl rfl | exact Or.inr rfl | (simp only; omega)⟩, hh.rt (M1 := []) [] rfl ht⟩, by rw [ht]; try exact hh.1.1, fun q h9 hq => by rw [ht]; try exact hh.1.2.1 q h9 hq⟩) hh.1.2.2 dX11_opensComment_40
          · skip
            have c_10' : z_9.toInt = 42 := jb_ne_n (rfl) ((by decide)) c_10
            refine lv_iconst (v := 1) hx hb dX11_opensComment_35 (by decide) ?_
            refine lv_goto (tgt := 40) hx hb dX11_opensComment_36 (by decide) ?_
            rw [hQ]
            exact W.zret (v := 1) hx hb hr (jb_nz (Or.inr rfl)) (fun t ht hW => ⟨⟨1, (), rfl, ⟨(Or.inr rfl), by first | omega | rfl | assumption | decide | exact Or.inl rfl | exact Or.inr rfl | (simp only; omega)⟩, hh.rt (M1 := []) [] rfl ht⟩, by rw [ht]; try exact hh.1.1, fun q h9 hq => by rw [ht]; try exact hh.1.2.1 q h9 hq⟩) hh.1.2.2 dX11_opensComment_40
set_option maxHeartbeats 4000000 in
set_option maxRecDepth 20000 in
theorem uX11_commentEnd (l : Launch) (dC : Nat → ClassId) (dI : Nat → Nat → Nat) (ca : Nat → ClassId) (base : Nat) (B : jF) (hB : jBok B) (hAp : jAp (dC, dI)) (hB101 : ∀ n G a H, B 101 n G a H ↔ jAr (dC, dI) (ca 1) (fun j z => True) n a H) (G0 : jT) (H0 : Heap) (r0 : Nat) (a1 : Int32) (a2 : Int32) (n0 : Nat) : Met l yX11_commentEnd (jw yX11_commentEnd cX11_commentEnd 5 (some .int)) ({ frames := 1, cells := 0, slots := 0, locals := 22 }) (va_Pc [.ref r0, .int a1, .int a2] (fun U => U.heap = H0 ∧ jX B base G0 [] H0 ∧ jG dC dI ca base U ∧ G0 r0 = some (101, n0) ∧ jP (dC, dI) G0 H0 [] ∧ n0 < 1000000 ∧ a1.toInt ≤ 1000000)) (va_Qi (S := Unit) (fun r u => (r.toInt = -1 ∨ (a1.toInt + 4 ≤ r.toInt ∧ r.toInt ≤ a2.toInt))) (fun u t => jRt (dC, dI) B base G0 EX11_commentEnd H0 [] t.heap) (jA base)) 0 0 (jA base) := by
  refine Met.ofW (cc := cX11_commentEnd) (maxL := 5) (ret := (some .int)) (by decide) rfl ?_
  intro p e s m args below meth c s₁ Bd hml hv
  obtain ⟨rfl, hH0, hX, hG, hg_r0, hP0, hp0, hp1⟩ := hv
  have hK := hG.1
  have hx := Bd.exec
  have hb := Bd.bytes
  have hr := Bd.returns
  have hts := atoms_spec (ws := (jw yX11_commentEnd cX11_commentEnd 5 (some .int))) Bd.pre
  have htw : ∀ w ∈ jWl, w.before _ s = true := fun w h => hts w (List.mem_cons_of_mem _ h)
  have hown : s.vm.findClass RX11 = some m.cls := findClass_of_methodNamed Bd.named
  have hlocks := Bd.notSynchronized
  obtain ⟨Q, hQ⟩ : ∃ Q, Q = MQ below (va_Qi (S := Unit) (fun r u => (r.toInt = -1 ∨ (a1.toInt + 4 ≤ r.toInt ∧ r.toInt ≤ a2.toInt))) (fun u t => jRt (dC, dI) B base G0 EX11_commentEnd H0 [] t.heap) (jA base)) ([.ref r0, .int a1, .int a2] : List Value).toArray s 0 0 (jA base) := ⟨_, rfl⟩
  rw [← hQ]
  have hl := lv_entry ([.ref r0, .int a1, .int a2]) (n := 5) (Nat.le_of_ble_eq_true rfl)
  rw [lg_entry_eq]
  generalize (lg_sl ([.ref r0, .int a1, .int a2]) ++ List.replicate (5 - (lg_sl ([.ref r0, .int a1, .int a2])).length) Slot.unset).toArray = ls at hl ⊢
  have hl : lv_has ls 5 [(0, .ref r0), (1, .int a1), (2, .int a2)] := hl
  generalize hR : (headSpec (jw yX11_commentEnd cX11_commentEnd 5 (some .int)) ({ frames := 1, cells := 0, slots := 0, locals := 22 })).room = R
  subst hH0
  have hh : jSt (dC, dI) B base G0 G0 EX11_commentEnd s.heap 0 0 [] [] [] s.heap [] := jSt.start hX hP0 jMc.nil jIs.nil
  clear hX hP0
  have hkm1 : ((-1) : Int32).toInt = (-1) := by decide
  have hk0 : (0 : Int32).toInt = 0 := by decide
  have hk1 : (1 : Int32).toInt = 1 := by decide
  have hk2 : (2 : Int32).toInt = 2 := by decide
  have hk40 : (40 : Int32).toInt = 40 := by decide
  have hk41 : (41 : Int32).toInt = 41 := by decide
  have hk42 : (42 : Int32).toInt = 42 := by decide
  have hrg_a1 := jb_rng a1
  have hrg_a2 := jb_rng a2
  refine lv_aload_n hx hb dX11_commentEnd_0 rfl (lv_at hl 0 rfl) ?_
  refine lv_iload_n hx hb dX11_commentEnd_1 rfl (lv_at hl 1 rfl) ?_
  refine lv_iload_n hx hb dX11_commentEnd_2 rfl (lv_at hl 2 rfl) ?_
  refine va_calli (A0 := jA base) (H0 := s.heap) (va_runS (As := [.ref r0, .int a1, .int a2]) (rest := []) ⟨hx, hb, hml, hown, hts⟩ (uX11_opensComment l dC dI ca base B hB hAp hB101 G0 s.heap r0 a1 a2 n0) (va_cwS 3 hts (jgS (jWr_36 _ (List.mem_of_getElem? (i := 12) rfl)) (jWr_36 _ (List.mem_of_getElem? (i := 13) rfl)) (jWr_1 _ (List.mem_of_getElem? (i := 2) rfl)) (jWr_36 _ (List.mem_of_getElem? (i := 14) rfl))) rfl rfl rfl (by decide +kernel) ⟨by rw [← hR]; exact Nat.le_of_ble_eq_true rfl, by rw [← hR]; exact Nat.le_of_ble_eq_true rfl⟩) ⟨fun a U g mk q => by obtain ⟨q0, q1, q2, qK, q10, q11, q12⟩ := q; exact ⟨q0, q1, q2, jG.calling g mk a qK, q10, q11, q12⟩, fun U hU hW => ⟨rfl, hU, hh.2.1, hG.step hW hU hh.1, hg_r0, jP.nil, by first | omega | (refine ⟨?_, ?_⟩ <;> (first | omega | rfl | assumption | decide | exact Or.inl rfl | exact Or.inr rfl | (simp only; omega)))⟩⟩ rfl rfl hl.1 rfl (lv_room (Nat.le_of_ble_eq_true rfl)) dX11_commentEnd_3 ⟨Nat.zero_le _, Nat.zero_le _⟩) hh.1 (fun q _ h => h) (fun q h => h) (fun r_2 u_1 t_1 H_1 locs_1 ht_1 hvm_1 hr_2 hb_1 hz_1 hk_1 hS_1 => ?_)
  rw [ht_1] at hb_1
  obtain ⟨hb_11, hb_12, hb_13, hb_14, hb_15⟩ := hb_1
  have hh_1 : jSt (dC, dI) B base G0 G0 EX11_commentEnd s.heap 0 0 [] [] [] H_1 locs_1 := ((hh.call hb_11 hb_12 hb_13 hb_14 hS_1 rfl (L1 := []) [] rfl rfl (M1 := []) [] rfl rfl (I1 := []) [] rfl rfl).more hb_15)
  clear hh ht_1 hvm_1 hz_1 hk_1 hS_1 hb_11 hb_12 hb_13 hb_14 hb_15
  obtain ⟨hr_2b, hr_2p⟩ := hr_2
  have hr_2' := jb_01 hr_2b
  refine lv_if_ne (tgt := 11) hx hb dX11_commentEnd_6 (by decide) (fun c_3 => ?_) (fun c_3 => ?_)
  · skip
    have c_3' : r_2.toInt ≠ 0 := jb_ne (rfl) ((by decide)) c_3
    first | (have hr_2pq := hr_2p.resolve_left (by omega); clear hr_2p) | (have hr_2pq := hr_2p.resolve_right (by omega); clear hr_2p) | try clear hr_2p
    refine lv_iconst (v := 1) hx hb dX11_commentEnd_11 (by decide) ?_
    refine lv_istore_n (lv' := [(3, .int 1), (0, .ref r0), (1, .int a1), (2, .int a2)]) hx hb dX11_commentEnd_12 rfl hl (by decide) rfl (fun ls hl => ?_)
    refine lv_iload_n hx hb dX11_commentEnd_13 rfl (lv_at hl 2 rfl) ?_
    refine lv_iconst (v := 2) hx hb dX11_commentEnd_14 (by decide) ?_
    refine lv_iadd hx hb dX11_commentEnd_15 ?_
    refine lv_topi (fun z_4 ez_4 => ?_)
    have hz_4 : z_4.toInt = a1.toInt + 2 := by rw [ez_4]; exact jb_iadd2 (rfl) ((by decide)) (by omega)
    refine lv_istore (lv' := [(4, .int z_4), (3, .int 1), (0, .ref r0), (1, .int a1), (2, .int a2)]) hx hb dX11_commentEnd_16 hl (by decide) rfl (fun ls hl => ?_)
    have L18 : ∀ (N : Nat) (v3_5 : Int32) (v4_5 : Int32) (H_5 : Heap) (locs_5 : List Loc), jSt (dC, dI) B base G0 G0 EX11_commentEnd s.heap 0 0 [] [] [] H_5 locs_5 → (a1.toInt + 2 ≤ v4_5.toInt ∧ v4_5.toInt ≤ a2.toInt + 2 ∧ 1 ≤ v3_5.toInt ∧ v3_5.toInt ≤ v4_5.toInt) → (((a2.toInt - v4_5.toInt).toNat : Int) : Int) < N → ∀ ls : Array Slot, lv_has ls 5 [(0, .ref r0), (1, .int a1), (2, .int a2), (3, .int v3_5), (4, .int v4_5)] → W p l e R s m ([.ref r0, .int a1, .int a2] : List Value).toArray below meth c H_5 locs_5 0 0 Q (F0 m 18 ls []) := by
      intro N
      induction N with
      | zero => intro v3_5 v4_5 H_5 locs_5 hh_5  hi_5 hm; exact absurd hm (by omega)
      | succ N L18 =>
        intro v3_5 v4_5 H_5 locs_5 hh_5  hi_5 hm_5 ls hl
        obtain ⟨hi_5_0, hi_5_1, hi_5_2, hi_5_3⟩ := hi_5
        refine lv_iload hx hb dX11_commentEnd_18 (lv_at hl 4 rfl) ?_
        refine lv_iconst (v := 1) hx hb dX11_commentEnd_20 (by decide) ?_
        refine lv_iadd hx hb dX11_commentEnd_21 ?_
        refine lv_topi (fun z_6 ez_6 => ?_)
        have hz_6 : z_6.toInt = v4_5.toInt + 1 := by rw [ez_6]; exact jb_iadd2 (rfl) ((by decide)) (by omega)
        refine lv_iload_n hx hb dX11_commentEnd_22 rfl (lv_at hl 2 rfl) ?_
        refine lv_icmp_ge (tgt := 96) hx hb dX11_commentEnd_23 (by decide) (fun c_7 => ?_) (fun c_7 => ?_)
        · skip
          have c_7' : z_6.toInt ≥ a2.toInt := jb_ge (rfl) (rfl) c_7
          refine lv_iconst (v := (-1)) hx hb dX11_commentEnd_96 (by decide) ?_
          rw [hQ]
          exact W.iret (v := (-1)) hx hb hr (fun t ht hW => ⟨⟨(-1), (), rfl, by first | omega | rfl | assumption | decide | exact Or.inl rfl | exact Or.inr rfl | (simp only; omega), hh_5.rt (M1 := []) [] rfl ht⟩, by rw [ht]; try exact hh_5.1.1, fun q h9 hq => by rw [ht]; try exact hh_5.1.2.1 q h9 hq⟩) hh_5.1.2.2 dX11_commentEnd_97
        · skip
          have c_7' : z_6.toInt < a2.toInt := jb_ge_n (rfl) (rfl) c_7
          refine lv_aload_n hx hb dX11_commentEnd_26 rfl (lv_at hl 0 rfl) ?_
          refine lv_iload hx hb dX11_commentEnd_27 (lv_at hl 4 rfl) ?_
          refine j7_iald hx hb hK hh_5 hB101 1 rfl (by decide) hg_r0 (x := v4_5.toInt) (rfl) (by omega) dX11_commentEnd_29 (fun z_8 (hz_8 : True) => ?_)
          refine lv_bipush (v := 40) hx hb dX11_commentEnd_30 (by decide) ?_
          refine lv_icmp_ne (tgt := 55) hx hb dX11_commentEnd_32 (by decide) (fun c_9 => ?_) (fun c_9 => ?_)
          · skip
            have c_9' : z_8.toInt ≠ 40 := jb_ne (rfl) ((by decide)) c_9
            refine lv_aload_n hx hb dX11_commentEnd_55 rfl (lv_at hl 0 rfl) ?_
            refine lv_iload hx hb dX11_commentEnd_56 (lv_at hl 4 rfl) ?_
            refine j7_iald hx hb hK hh_5 hB101 1 rfl (by decide) hg_r0 (x := v4_5.toInt) (rfl) (by omega) dX11_commentEnd_58 (fun z_10 (hz_10 : True) => ?_)
            refine lv_bipush (v := 42) hx hb dX11_commentEnd_59 (by decide) ?_
            refine lv_icmp_ne (tgt := 90) hx hb dX11_commentEnd_61 (by decide) (fun c_11 => ?_) (fun c_11 => ?_)
            · skip
              have c_11' : z_10.toInt ≠ 42 := jb_ne (rfl) ((by decide)) c_11
              obtain ⟨z_12, ez_12⟩ : ∃ y : Int32, y = v4_5 + 1 := ⟨_, rfl⟩
              refine lv_iinc (v := z_12) (lv' := [(4, .int z_12), (0, .ref r0), (1, .int a1), (2, .int a2), (3, .int v3_5)]) hx hb dX11_commentEnd_90 hl (k := 4) rfl (by rw [ez_12]; rfl) (by decide) rfl (fun ls hl => ?_)
              have hz_12 : z_12.toInt = v4_5.toInt + 1 := by rw [ez_12]; exact jb_iadd2 (rfl) (by decide) (by omega)
              refine lv_goto (tgt := 18) hx hb dX11_commentEnd_93 (by decide) ?_
              exact L18 v3_5 z_12 _ _ hh_5 (by first | omega | (refine ⟨?_, ?_, ?_, ?_⟩ <;> (first | omega | rfl | assumption | decide | exact Or.inl rfl | exact Or.inr rfl | (simp only; omega)))) (by omega) _ (lv_sub hl [1, 2, 3, 4, 0] rfl)
            · skip
              have c_11' : z_10.toInt = 42 := jb_ne_n (rfl) ((by decide)) c_11
              refine lv_aload_n hx hb dX11_commentEnd_64 rfl (lv_at hl 0 rfl) ?_
              refine lv_iload hx hb dX11_commentEnd_65 (lv_at hl 4 rfl) ?_
              refine lv_iconst (v := 1) hx hb dX11_commentEnd_67 (by decide) ?_
              refine lv_iadd hx hb dX11_commentEnd_68 ?_
              refine lv_topi (fun z_13 ez_13 => ?_)
              have hz_13 : z_13.toInt = v4_5.toInt + 1 := by rw [ez_13]; exact jb_iadd2 (rfl) ((by decide)) (by omega)
              refine j7_iald hx hb hK hh_5 hB101 1 rfl (by decide) hg_r0 (x := z_13.toInt) (rfl) (by omega) dX11_commentEnd_69 (fun z_14 (hz_14 : True) => ?_)
              refine lv_bipush (v := 41) hx hb dX11_commentEnd_70 (by decide) ?_
              refine lv_icmp_ne (tgt := 90) hx hb dX11_commentEnd_72 (by decide) (fun c_15 => ?_) (fun c_15 => ?_)
              · skip
                have c_15' : z_14.toInt ≠ 41 := jb_ne (rfl) ((by decide)) c_15
                obtain ⟨z_16, ez_16⟩ : ∃ y : Int32, y = v4_5 + 1 := ⟨_, rfl⟩
                refine lv_iinc (v := z_16) (lv' := [(4, .int z_16), (0, .ref r0), (1, .int a1), (2, .int a2), (3, .int v3_5)]) hx hb dX11_commentEnd_90 hl (k := 4) rfl (by rw [ez_16]; rfl) (by decide) rfl (fun ls hl => ?_)
                have hz_16 : z_16.toInt = v4_5.toInt + 1 := by rw [ez_16]; exact jb_iadd2 (rfl) (by decide) (by omega)
                refine lv_goto (tgt := 18) hx hb dX11_commentEnd_93 (by decide) ?_
                exact L18 v3_5 z_16 _ _ hh_5 (by first | omega | (refine ⟨?_, ?_, ?_, ?_⟩ <;> (first | omega | rfl | assumption | decide | exact Or.inl rfl | exact Or.inr rfl | (simp only; omega)))) (by omega) _ (lv_sub hl [1, 2, 3, 4, 0] rfl)
              · skip
                have c_15' : z_14.toInt = 41 := jb_ne_n (rfl) ((by decide)) c_15
                obtain ⟨z_17, ez_17⟩ : ∃ y : Int32, y = v3_5 + (-1) := ⟨_, rfl⟩
                refine lv_iinc (v := z_17) (lv' := [(3, .int z_17), (0, .ref r0), (1, .int a1), (2, .int a2), (4, .int v4_5)]) hx hb dX11_commentEnd_75 hl (k := 3) rfl (by rw [ez_17]; rfl) (by decide) rfl (fun ls hl => ?_)
                have hz_17 : z_17.toInt = v3_5.toInt + (-1) := by rw [ez_17]; exact jb_iadd2 (rfl) (by decide) (by omega)
                obtain ⟨z_18, ez_18⟩ : ∃ y : Int32, y = v4_5 + 1 := ⟨_, rfl⟩
                refine lv_iinc (v := z_18) (lv' := [(4, .int z_18), (3, .int z_17), (0, .ref r0), (1, .int a1), (2, .int a2)]) hx hb dX11_commentEnd_78 hl (k := 4) rfl (by rw [ez_18]; rfl) (by decide) rfl (fun ls hl => ?_)
                have hz_18 : z_18.toInt = v4_5.toInt + 1 := by rw [ez_18]; exact jb_iadd2 (rfl) (by decide) (by omega)
                refine lv_iload_n hx hb dX11_commentEnd_81 rfl (lv_at hl 1 rfl) ?_
                refine lv_if_ne (tgt := 90) hx hb dX11_commentEnd_82 (by decide) (fun c_19 => ?_) (fun c_19 => ?_)
                · skip
                  have c_19' : z_17.toInt ≠ 0 := jb_ne (rfl) ((by decide)) c_19
                  obtain ⟨z_20, ez_20⟩ : ∃ y : Int32, y = z_18 + 1 := ⟨_, rfl⟩
                  refine lv_iinc (v := z_20) (lv' := [(4, .int z_20), (3, .int z_17), (0, .ref r0), (1, .int a1), (2, .int a2)]) hx hb dX11_commentEnd_90 hl (k := 0) rfl (by rw [ez_20]; rfl) (by decide) rfl (fun ls hl => ?_)
                  have hz_20 : z_20.toInt = z_18.toInt + 1 := by rw [ez_20]; exact jb_iadd2 (rfl) (by decide) (by omega)
                  refine lv_goto (tgt := 18) hx hb dX11_commentEnd_93 (by decide) ?_
                  exact L18 z_17 z_20 _ _ hh_5 (by first | omega | (refine ⟨?_, ?_, ?_, ?_⟩ <;> (first | omega | rfl | assumption | decide | exact Or.inl rfl | exact Or.inr rfl | (simp only; omega)))) (by omega) _ (lv_sub hl [2, 3, 4, 1, 0] rfl)
                · skip
                  have c_19' : z_17.toInt = 0 := jb_ne_n (rfl) ((by decide)) c_19
                  refine lv_iload hx hb dX11_commentEnd_85 (lv_at hl 0 rfl) ?_
                  refine lv_iconst (v := 1) hx hb dX11_commentEnd_87 (by decide) ?_
                  refine lv_iadd hx hb dX11_commentEnd_88 ?_
                  refine lv_topi (fun z_21 ez_21 => ?_)
                  have hz_21 : z_21.toInt = z_18.toInt + 1 := by rw [ez_21]; exact jb_iadd2 (rfl) ((by decide)) (by omega)
                  rw [hQ]
                  exact W.iret (v := z_21) hx hb hr (fun t ht hW => ⟨⟨z_21, (), rfl, by first | omega | rfl | assumption | decide | exact Or.inl rfl | exact Or.inr rfl | (simp only; omega), hh_5.rt (M1 := []) [] rfl ht⟩, by rw [ht]; try exact hh_5.1.1, fun q h9 hq => by rw [ht]; try exact hh_5.1.2.1 q h9 hq⟩) hh_5.1.2.2 dX11_commentEnd_89
          · skip
            have c_9' : z_8.toInt = 40 := jb_ne_n (rfl) ((by decide)) c_9
            refine lv_aload_n hx hb dX11_commentEnd_35 rfl (lv_at hl 0 rfl) ?_
            refine lv_iload hx hb dX11_commentEnd_36 (lv_at hl 4 rfl) ?_
            refine lv_iconst (v := 1) hx hb dX11_commentEnd_38 (by decide) ?_
            refine lv_iadd hx hb dX11_commentEnd_39 ?_
            refine lv_topi (fun z_22 ez_22 => ?_)
            have hz_22 : z_22.toInt = v4_5.toInt + 1 := by rw [ez_22]; exact jb_iadd2 (rfl) ((by decide)) (by omega)
            refine j7_iald hx hb hK hh_5 hB101 1 rfl (by decide) hg_r0 (x := z_22.toInt) (rfl) (by omega) dX11_commentEnd_40 (fun z_23 (hz_23 : True) => ?_)
            refine lv_bipush (v := 42) hx hb dX11_commentEnd_41 (by decide) ?_
            refine lv_icmp_ne (tgt := 55) hx hb dX11_commentEnd_43 (by decide) (fun c_24 => ?_) (fun c_24 => ?_)
            · skip
              have c_24' : z_23.toInt ≠ 42 := jb_ne (rfl) ((by decide)) c_24
              refine lv_aload_n hx hb dX11_commentEnd_55 rfl (lv_at hl 0 rfl) ?_
              refine lv_iload hx hb dX11_commentEnd_56 (lv_at hl 4 rfl) ?_
              refine j7_iald hx hb hK hh_5 hB101 1 rfl (by decide) hg_r0 (x := v4_5.toInt) (rfl) (by omega) dX11_commentEnd_58 (fun z_25 (hz_25 : True) => ?_)
              refine lv_bipush (v := 42) hx hb dX11_commentEnd_59 (by decide) ?_
              refine lv_icmp_ne (tgt := 90) hx hb dX11_commentEnd_61 (by decide) (fun c_26 => ?_) (fun c_26 => ?_)
              · skip
                have c_26' : z_25.toInt ≠ 42 := jb_ne (rfl) ((by decide)) c_26
                obtain ⟨z_27, ez_27⟩ : ∃ y : Int32, y = v4_5 + 1 := ⟨_, rfl⟩
                refine lv_iinc (v := z_27) (lv' := [(4, .int z_27), (0, .ref r0), (1, .int a1), (2, .int a2), (3, .int v3_5)]) hx hb dX11_commentEnd_90 hl (k := 4) rfl (by rw [ez_27]; rfl) (by decide) rfl (fun ls hl => ?_)
                have hz_27 : z_27.toInt = v4_5.toInt + 1 := by rw [ez_27]; exact jb_iadd2 (rfl) (by decide) (by omega)
                refine lv_goto (tgt := 18) hx hb dX11_commentEnd_93 (by decide) ?_
                exact L18 v3_5 z_27 _ _ hh_5 (by first | omega | (refine ⟨?_, ?_, ?_, ?_⟩ <;> (first | omega | rfl | assumption | decide | exact Or.inl rfl | exact Or.inr rfl | (simp only; omega)))) (by omega) _ (lv_sub hl [1, 2, 3, 4, 0] rfl)
              · skip
                have c_26' : z_25.toInt = 42 := jb_ne_n (rfl) ((by decide)) c_26
                refine lv_aload_n hx hb dX11_commentEnd_64 rfl (lv_at hl 0 rfl) ?_
                refine lv_iload hx hb dX11_commentEnd_65 (lv_at hl 4 rfl) ?_
                refine lv_iconst (v := 1) hx hb dX11_commentEnd_67 (by decide) ?_
                refine lv_iadd hx hb dX11_commentEnd_68 ?_
                refine lv_topi (fun z_28 ez_28 => ?_)
                have hz_28 : z_28.toInt = v4_5.toInt + 1 := by rw [ez_28]; exact jb_iadd2 (rfl) ((by decide)) (by omega)
                refine j7_iald hx hb hK hh_5 hB101 1 rfl (by decide) hg_r0 (x := z_28.toInt) (rfl) (by omega) dX11_commentEnd_69 (fun z_29 (hz_29 : True) => ?_)
                refine lv_bipush (v := 41) hx hb dX11_commentEnd_70 (by decide) ?_
                refine lv_icmp_ne (tgt := 90) hx hb dX11_commentEnd_72 (by decide) (fun c_30 => ?_) (fun c_30 => ?_)
                · skip
                  have c_30' : z_29.toInt ≠ 41 := jb_ne (rfl) ((by decide)) c_30
                  obtain ⟨z_31, ez_31⟩ : ∃ y : Int32, y = v4_5 + 1 := ⟨_, rfl⟩
                  refine lv_iinc (v := z_31) (lv' := [(4, .int z_31), (0, .ref r0), (1, .int a1), (2, .int a2), (3, .int v3_5)]) hx hb dX11_commentEnd_90 hl (k := 4) rfl (by rw [ez_31]; rfl) (by decide) rfl (fun ls hl => ?_)
                  have hz_31 : z_31.toInt = v4_5.toInt + 1 := by rw [ez_31]; exact jb_iadd2 (rfl) (by decide) (by omega)
                  refine lv_goto (tgt := 18) hx hb dX11_commentEnd_93 (by decide) ?_
                  exact L18 v3_5 z_31 _ _ hh_5 (by first | omega | (refine ⟨?_, ?_, ?_, ?_⟩ <;> (first | omega | rfl | assumption | decide | exact Or.inl rfl | exact Or.inr rfl | (simp only; omega)))) (by omega) _ (lv_sub hl [1, 2, 3, 4, 0] rfl)
                · skip
                  have c_30' : z_29.toInt = 41 := jb_ne_n (rfl) ((by decide)) c_30
                  obtain ⟨z_32, ez_32⟩ : ∃ y : Int32, y = v3_5 + (-1) := ⟨_, rfl⟩
                  refine lv_iinc (v := z_32) (lv' := [(3, .int z_32), (0, .ref r0), (1, .int a1), (2, .int a2), (4, .int v4_5)]) hx hb dX11_commentEnd_75 hl (k := 3) rfl (by rw [ez_32]; rfl) (by decide) rfl (fun ls hl => ?_)
                  have hz_32 : z_32.toInt = v3_5.toInt + (-1) := by rw [ez_32]; exact jb_iadd2 (rfl) (by decide) (by omega)
                  obtain ⟨z_33, ez_33⟩ : ∃ y : Int32, y = v4_5 + 1 := ⟨_, rfl⟩
                  refine lv_iinc (v := z_33) (lv' := [(4, .int z_33), (3, .int z_32), (0, .ref r0), (1, .int a1), (2, .int a2)]) hx hb dX11_commentEnd_78 hl (k := 4) rfl (by rw [ez_33]; rfl) (by decide) rfl (fun ls hl => ?_)
                  have hz_33 : z_33.toInt = v4_5.toInt + 1 := by rw [ez_33]; exact jb_iadd2 (rfl) (by decide) (by omega)
                  refine lv_iload_n hx hb dX11_commentEnd_81 rfl (lv_at hl 1 rfl) ?_
                  refine lv_if_ne (tgt := 90) hx hb dX11_commentEnd_82 (by decide) (fun c_34 => ?_) (fun c_34 => ?_)
                  · skip
                    have c_34' : z_32.toInt ≠ 0 := jb_ne (rfl) ((by decide)) c_34
                    obtain ⟨z_35, ez_35⟩ : ∃ y : Int32, y = z_33 + 1 := ⟨_, rfl⟩
                    refine lv_iinc (v := z_35) (lv' := [(4, .int z_35), (3, .int z_32), (0, .ref r0), (1, .int a1), (2, .int a2)]) hx hb dX11_commentEnd_90 hl (k := 0) rfl (by rw [ez_35]; rfl) (by decide) rfl (fun ls hl => ?_)
                    have hz_35 : z_35.toInt = z_33.toInt + 1 := by rw [ez_35]; exact jb_iadd2 (rfl) (by decide) (by omega)
                    refine lv_goto (tgt := 18) hx hb dX11_commentEnd_93 (by decide) ?_
                    exact L18 z_32 z_35 _ _ hh_5 (by first | omega | (refine ⟨?_, ?_, ?_, ?_⟩ <;> (first | omega | rfl | assumption | decide | exact Or.inl rfl | exact Or.inr rfl | (simp only; omega)))) (by omega) _ (lv_sub hl [2, 3, 4, 1, 0] rfl)
                  · skip
                    have c_34' : z_32.toInt = 0 := jb_ne_n (rfl) ((by decide)) c_34
                    refine lv_iload hx hb dX11_commentEnd_85 (lv_at hl 0 rfl) ?_
                    refine lv_iconst (v := 1) hx hb dX11_commentEnd_87 (by decide) ?_
                    refine lv_iadd hx hb dX11_commentEnd_88 ?_
                    refine lv_topi (fun z_36 ez_36 => ?_)
                    have hz_36 : z_36.toInt = z_33.toInt + 1 := by rw [ez_36]; exact jb_iadd2 (rfl) ((by decide)) (by omega)
                    rw [hQ]
                    exact W.iret (v := z_36) hx hb hr (fun t ht hW => ⟨⟨z_36, (), rfl, by first | omega | rfl | assumption | decide | exact Or.inl rfl | exact Or.inr rfl | (simp only; omega), hh_5.rt (M1 := []) [] rfl ht⟩, by rw [ht]; try exact hh_5.1.1, fun q h9 hq => by rw [ht]; try exact hh_5.1.2.1 q h9 hq⟩) hh_5.1.2.2 dX11_commentEnd_89
            · skip
              have c_24' : z_23.toInt = 42 := jb_ne_n (rfl) ((by decide)) c_24
              obtain ⟨z_37, ez_37⟩ : ∃ y : Int32, y = v3_5 + 1 := ⟨_, rfl⟩
              refine lv_iinc (v := z_37) (lv' := [(3, .int z_37), (0, .ref r0), (1, .int a1), (2, .int a2), (4, .int v4_5)]) hx hb dX11_commentEnd_46 hl (k := 3) rfl (by rw [ez_37]; rfl) (by decide) rfl (fun ls hl => ?_)
              have hz_37 : z_37.toInt = v3_5.toInt + 1 := by rw [ez_37]; exact jb_iadd2 (rfl) (by decide) (by omega)
              obtain ⟨z_38, ez_38⟩ : ∃ y : Int32, y = v4_5 + 1 := ⟨_, rfl⟩
              refine lv_iinc (v := z_38) (lv' := [(4, .int z_38), (3, .int z_37), (0, .ref r0), (1, .int a1), (2, .int a2)]) hx hb dX11_commentEnd_49 hl (k := 4) rfl (by rw [ez_38]; rfl) (by decide) rfl (fun ls hl => ?_)
              have hz_38 : z_38.toInt = v4_5.toInt + 1 := by rw [ez_38]; exact jb_iadd2 (rfl) (by decide) (by omega)
              refine lv_goto (tgt := 90) hx hb dX11_commentEnd_52 (by decide) ?_
              obtain ⟨z_39, ez_39⟩ : ∃ y : Int32, y = z_38 + 1 := ⟨_, rfl⟩
              refine lv_iinc (v := z_39) (lv' := [(4, .int z_39), (3, .int z_37), (0, .ref r0), (1, .int a1), (2, .int a2)]) hx hb dX11_commentEnd_90 hl (k := 0) rfl (by rw [ez_39]; rfl) (by decide) rfl (fun ls hl => ?_)
              have hz_39 : z_39.toInt = z_38.toInt + 1 := by rw [ez_39]; exact jb_iadd2 (rfl) (by decide) (by omega)
              refine lv_goto (tgt := 18) hx hb dX11_commentEnd_93 (by decide) ?_
              exact L18 z_37 z_39 _ _ hh_5 (by first | omega | (refine ⟨?_, ?_, ?_, ?_⟩ <;> (first | omega | rfl | assumption | decide | exact Or.inl rfl | exact Or.inr rfl | (simp only; omega)))) (by omega) _ (lv_sub hl [2, 3, 4, 1, 0] rfl)
    exact L18 (((a2.toInt - (z_4 : Int32).toInt).toNat : Int) : Int).toNat.succ 1 z_4 _ _ hh_1 (by first | omega | (refine ⟨?_, ?_, ?_, ?_⟩ <;> (first | omega | rfl | assumption | decide | exact Or.inl rfl | exact Or.inr rfl | (simp only; omega)))) (by omega) _ (lv_sub hl [2, 3, 4, 1, 0] rfl)
  · skip
    have c_3' : r_2.toInt = 0 := jb_ne_n (rfl) ((by decide)) c_3
    first | (have hr_2pq := hr_2p.resolve_left (by omega); clear hr_2p) | (have hr_2pq := hr_2p.resolve_right (by omega); clear hr_2p) | try clear hr_2p
    refine lv_iconst (v := (-1)) hx hb dX11_commentEnd_9 (by decide) ?_
    rw [hQ]
    exact W.iret (v := (-1)) hx hb hr (fun t ht hW => ⟨⟨(-1), (), rfl, by first | omega | rfl | assumption | decide | exact Or.inl rfl | exact Or.inr rfl | (simp only; omega), hh_1.rt (M1 := []) [] rfl ht⟩, by rw [ht]; try exact hh_1.1.1, fun q h9 hq => by rw [ht]; try exact hh_1.1.2.1 q h9 hq⟩) hh_1.1.2.2 dX11_commentEnd_10
set_option maxHeartbeats 4000000 in
set_option maxRecDepth 20000 in
theorem uX6_find (l : Launch) (dC : Nat → ClassId) (dI : Nat → Nat → Nat) (ca : Nat → ClassId) (base : Nat) (B : jF) (hB : jBok B) (hAp : jAp (dC, dI)) (hB8 : ∀ n G a H, B 8 n G a H ↔ jOb (dC, dI) 8 4 (F8 n G) a H) (hB102 : ∀ n G a H, B 102 n G a H ↔ jAl (dC, dI) (ca 2) n a H) (hB132 : ∀ n G a H, B 132 n G a H ↔ jAr (dC, dI) (ca 1) (fun j z => 0 ≤ z.toInt ∧ z.toInt ≤ 10) n a H) (hB133 : ∀ n G a H, B 133 n G a H ↔ jAr (dC, dI) (ca 1) (fun j z => 0 ≤ z.toInt ∧ z.toInt ≤ 8192) n a H) (G0 : jT) (H0 : Heap) (r0 : Nat) (a1 : Int64) (a3 : Int32) (a4 : Int32) : Met l yX6_find (jw yX6_find cX6_find 9 (some .int)) ({ frames := 0, cells := 0, slots := 0, locals := 0 }) (va_Pc [.ref r0, .long a1, .int a3, .int a4] (fun U => U.heap = H0 ∧ jX B base G0 [] H0 ∧ jG dC dI ca base U ∧ G0 r0 = some (8, 0) ∧ jP (dC, dI) G0 H0 [] ∧ 0 ≤ a3.toInt ∧ a3.toInt ≤ 10)) (va_Qi (S := Unit) (fun r u => (-1 ≤ r.toInt ∧ r.toInt ≤ 8191)) (fun u t => jRt (dC, dI) B base G0 EX6_find H0 [] t.heap) (jA base)) 0 0 (jA base) := by
  refine Met.ofW (cc := cX6_find) (maxL := 9) (ret := (some .int)) (by decide) rfl ?_
  intro p e s m args below meth c s₁ Bd hml hv
  obtain ⟨rfl, hH0, hX, hG, hg_r0, hP0, hp0, hp1⟩ := hv
  have hK := hG.1
  have hx := Bd.exec
  have hb := Bd.bytes
  have hr := Bd.returns
  have hts := atoms_spec (ws := (jw yX6_find cX6_find 9 (some .int))) Bd.pre
  have htw : ∀ w ∈ jWl, w.before _ s = true := fun w h => hts w (List.mem_cons_of_mem _ h)
  have hown : s.vm.findClass RX6 = some m.cls := findClass_of_methodNamed Bd.named
  have hlocks := Bd.notSynchronized
  obtain ⟨Q, hQ⟩ : ∃ Q, Q = MQ below (va_Qi (S := Unit) (fun r u => (-1 ≤ r.toInt ∧ r.toInt ≤ 8191)) (fun u t => jRt (dC, dI) B base G0 EX6_find H0 [] t.heap) (jA base)) ([.ref r0, .long a1, .int a3, .int a4] : List Value).toArray s 0 0 (jA base) := ⟨_, rfl⟩
  rw [← hQ]
  have hl := lv_entry ([.ref r0, .long a1, .int a3, .int a4]) (n := 9) (Nat.le_of_ble_eq_true rfl)
  rw [lg_entry_eq]
  generalize (lg_sl ([.ref r0, .long a1, .int a3, .int a4]) ++ List.replicate (9 - (lg_sl ([.ref r0, .long a1, .int a3, .int a4])).length) Slot.unset).toArray = ls at hl ⊢
  have hl : lv_has ls 9 [(0, .ref r0), (1, .long a1), (3, .int a3), (4, .int a4)] := hl
  generalize hR : (headSpec (jw yX6_find cX6_find 9 (some .int)) ({ frames := 0, cells := 0, slots := 0, locals := 0 })).room = R
  subst hH0
  have hh : jSt (dC, dI) B base G0 G0 EX6_find s.heap 0 0 [] [] [] s.heap [] := jSt.start hX hP0 jMc.nil jIs.nil
  clear hX hP0
  have hkm1 : ((-1) : Int32).toInt = (-1) := by decide
  have hk0 : (0 : Int32).toInt = 0 := by decide
  have hk1 : (1 : Int32).toInt = 1 := by decide
  have hk31 : (31 : Int32).toInt = 31 := by decide
  have hk40 : (40 : Int32).toInt = 40 := by decide
  have hk8192 : (8192 : Int32).toInt = 8192 := by decide
  have hk16383 : (16383 : Int32).toInt = 16383 := by decide
  have hk16384 : (16384 : Int32).toInt = 16384 := by decide
  have hly_8_0 := htw (u_lay RX6 TX6 0) (jWc_wsX60 _ (u_in_lay (by decide)))
  have hly_8_1 := htw (u_lay RX6 TX6 1) (jWc_wsX60 _ (u_in_lay (by decide)))
  have hly_8_2 := htw (u_lay RX6 TX6 2) (jWc_wsX60 _ (u_in_lay (by decide)))
  have hly_8_3 := htw (u_lay RX6 TX6 3) (jWc_wsX60 _ (u_in_lay (by decide)))
  have hlk_19 := (htw (.fieldLink RX6 19 "ProofServer$Names" "slots" "[I") (jWr_5 _ (List.mem_of_getElem? (i := 11) rfl)))
  have hlk_52 := (htw (.fieldLink RX6 52 "ProofServer$Names" "count" "I") (jWr_8 _ (List.mem_of_getElem? (i := 3) rfl)))
  have hlk_11 := (htw (.fieldLink RX6 11 "ProofServer$Names" "stems" "[J") (jWr_5 _ (List.mem_of_getElem? (i := 9) rfl)))
  have hlk_15 := (htw (.fieldLink RX6 15 "ProofServer$Names" "primes" "[I") (jWr_5 _ (List.mem_of_getElem? (i := 10) rfl)))
  have hrg_a3 := jb_rng a3
  have hrg_a4 := jb_rng a4
  refine lv_lload_n hx hb dX6_find_0 rfl (lv_at hl 1 rfl) ?_
  refine lv_ldc2 hx hb hown (htw (.constantLong RX6 50 (-7046029254386353131)) (jWr_8 _ (List.mem_of_getElem? (i := 2) rfl))) dX6_find_1 ?_
  refine lv_lmul hx hb dX6_find_4 ?_
  refine lv_topl (fun z_1 ez_1 => ?_)
  refine lv_bipush (v := 40) hx hb dX6_find_5 (by decide) ?_
  refine lv_lushr hx hb dX6_find_7 rfl ?_
  refine lv_topl (fun z_2 ez_2 => ?_)
  refine lv_l2i hx hb dX6_find_8 rfl ?_
  refine lv_topi (fun z_3 ez_3 => ?_)
  refine lv_bipush (v := 31) hx hb dX6_find_9 (by decide) ?_
  refine lv_iload_n hx hb dX6_find_11 rfl (lv_at hl 2 rfl) ?_
  refine lv_imul hx hb dX6_find_12 ?_
  refine lv_topi (fun z_4 ez_4 => ?_)
  refine lv_iadd hx hb dX6_find_13 ?_
  refine lv_topi (fun z_5 ez_5 => ?_)
  refine lv_istore (lv' := [(5, .int z_5), (0, .ref r0), (1, .long a1), (3, .int a3), (4, .int a4)]) hx hb dX6_find_14 hl (by decide) rfl (fun ls hl => ?_)
  refine lv_iconst (v := 0) hx hb dX6_find_16 (by decide) ?_
  refine lv_istore (lv' := [(6, .int 0), (5, .int z_5), (0, .ref r0), (1, .long a1), (3, .int a3), (4, .int a4)]) hx hb dX6_find_17 hl (by decide) rfl (fun ls hl => ?_)
  have L19 : ∀ (N : Nat) (v6_6 : Int32) (H_6 : Heap) (locs_6 : List Loc), jSt (dC, dI) B base G0 G0 EX6_find s.heap 0 0 [] [] [] H_6 locs_6 → (0 ≤ v6_6.toInt ∧ v6_6.toInt ≤ 16384) → (16384 - v6_6.toInt : Int) < N → ∀ ls : Array Slot, lv_has ls 9 [(0, .ref r0), (1, .long a1), (3, .int a3), (4, .int a4), (5, .int z_5), (6, .int v6_6)] → W p l e R s m ([.ref r0, .long a1, .int a3, .int a4] : List Value).toArray below meth c H_6 locs_6 0 0 Q (F0 m 19 ls []) := by
    intro N
    induction N with
    | zero => intro v6_6 H_6 locs_6 hh_6  hi_6 hm; exact absurd hm (by omega)
    | succ N L19 =>
      intro v6_6 H_6 locs_6 hh_6  hi_6 hm_6 ls hl
      obtain ⟨hi_6_0, hi_6_1⟩ := hi_6
      refine lv_iload hx hb dX6_find_19 (lv_at hl 5 rfl) ?_
      refine lv_sipush (v := 16384) hx hb dX6_find_21 (by decide) ?_
      refine lv_icmp_ge (tgt := 151) hx hb dX6_find_24 (by decide) (fun c_7 => ?_) (fun c_7 => ?_)
      · skip
        have c_7' : v6_6.toInt ≥ 16384 := jb_ge (rfl) ((by decide)) c_7
        refine lv_iconst (v := (-1)) hx hb dX6_find_151 (by decide) ?_
        rw [hQ]
        exact W.iret (v := (-1)) hx hb hr (fun t ht hW => ⟨⟨(-1), (), rfl, by first | omega | (refine ⟨?_, ?_⟩ <;> (first | omega | rfl | assumption | decide | exact Or.inl rfl | exact Or.inr rfl | (simp only; omega))), hh_6.rt (M1 := []) [] rfl ht⟩, by rw [ht]; try exact hh_6.1.1, fun q h9 hq => by rw [ht]; try exact hh_6.1.2.1 q h9 hq⟩) hh_6.1.2.2 dX6_find_152
      · skip
        have c_7' : v6_6.toInt < 16384 := jb_ge_n (rfl) ((by decide)) c_7
        refine lv_iload hx hb dX6_find_27 (lv_at hl 4 rfl) ?_
        refine lv_iload hx hb dX6_find_29 (lv_at hl 5 rfl) ?_
        refine lv_iadd hx hb dX6_find_31 ?_
        refine lv_topi (fun z_8 ez_8 => ?_)
        refine lv_sipush (v := 16383) hx hb dX6_find_32 (by decide) ?_
        refine lv_iand hx hb dX6_find_35 ?_
        refine lv_topi (fun z_9 ez_9 => ?_)
        have hz_9 : 0 ≤ z_9.toInt ∧ z_9.toInt ≤ 16383 := by rw [ez_9]; exact jb_and z_8 (m := 16383) (k := 14) (by decide) (by decide)
        refine lv_istore (lv' := [(7, .int z_9), (0, .ref r0), (1, .long a1), (3, .int a3), (4, .int a4), (5, .int z_5), (6, .int v6_6)]) hx hb dX6_find_36 hl (by decide) rfl (fun ls hl => ?_)
        refine lv_aload_n hx hb dX6_find_38 rfl (lv_at hl 1 rfl) ?_
        obtain ⟨v_10, hv_10, hh_11⟩ := hh_6.pin (C := RX6) (T := TX6) (N := 4) hB8 rfl (by decide) hg_r0 (i := 2) (by decide) rfl
        clear hh_6
        obtain ⟨slots_12, rfl, hg_slots_12⟩ := hv_10
        refine j7_read hx hb hown hK (C := RX6) (T := TX6) (N := 4) rfl hly_8_2 hlk_19 (hh_11.at 0 rfl) dX6_find_39 ?_
        refine lv_iload hx hb dX6_find_42 (lv_at hl 0 rfl) ?_
        refine j7_iald hx hb hK hh_11 hB133 1 rfl (by decide) hg_slots_12 (x := z_9.toInt) (rfl) (by omega) dX6_find_44 (fun z_13 (hz_13 : 0 ≤ z_13.toInt ∧ z_13.toInt ≤ 8192) => ?_)
        refine lv_iconst (v := 1) hx hb dX6_find_45 (by decide) ?_
        refine lv_isub hx hb dX6_find_46 ?_
        refine lv_topi (fun z_14 ez_14 => ?_)
        have hz_14 : z_14.toInt = z_13.toInt - 1 := by rw [ez_14]; exact jb_isub2 (rfl) ((by decide)) (by omega)
        refine lv_istore (lv' := [(8, .int z_14), (7, .int z_9), (0, .ref r0), (1, .long a1), (3, .int a3), (4, .int a4), (5, .int z_5), (6, .int v6_6)]) hx hb dX6_find_47 hl (by decide) rfl (fun ls hl => ?_)
        refine lv_iload hx hb dX6_find_49 (lv_at hl 0 rfl) ?_
        refine lv_if_ge (tgt := 119) hx hb dX6_find_51 (by decide) (fun c_15 => ?_) (fun c_15 => ?_)
        · skip
          have c_15' : z_14.toInt ≥ 0 := jb_ge (rfl) ((by decide)) c_15
          refine lv_aload_n hx hb dX6_find_119 rfl (lv_at hl 2 rfl) ?_
          obtain ⟨v_16, hv_16, hh_17⟩ := hh_11.pin (C := RX6) (T := TX6) (N := 4) hB8 rfl (by decide) hg_r0 (i := 0) (by decide) rfl
          clear hh_11
          obtain ⟨stems_18, rfl, hg_stems_18⟩ := hv_16
          refine j7_read hx hb hown hK (C := RX6) (T := TX6) (N := 4) rfl hly_8_0 hlk_11 (hh_17.at 0 rfl) dX6_find_120 ?_
          refine lv_iload hx hb dX6_find_123 (lv_at hl 0 rfl) ?_
          refine j7_lald hx hb hK hh_17 hB102 2 rfl (by decide) hg_stems_18 (x := z_14.toInt) (rfl) (by omega) dX6_find_125 (fun z_19 => ?_)
          refine lv_lload_n hx hb dX6_find_126 rfl (lv_at hl 3 rfl) ?_
          refine W.lcmp hx hb dX6_find_127 ?_
          refine lv_topi (fun z_20 ez_20 => ?_)
          have hz_20 := jb_lcmp ez_20
          refine lv_if_ne (tgt := 145) hx hb dX6_find_128 (by decide) (fun c_21 => ?_) (fun c_21 => ?_)
          · skip
            have c_21' : z_20.toInt ≠ 0 := jb_ne (rfl) ((by decide)) c_21
            obtain ⟨z_22, ez_22⟩ : ∃ y : Int32, y = v6_6 + 1 := ⟨_, rfl⟩
            refine lv_iinc (v := z_22) (lv' := [(6, .int z_22), (8, .int z_14), (7, .int z_9), (0, .ref r0), (1, .long a1), (3, .int a3), (4, .int a4), (5, .int z_5)]) hx hb dX6_find_145 hl (k := 7) rfl (by rw [ez_22]; rfl) (by decide) rfl (fun ls hl => ?_)
            have hz_22 : z_22.toInt = v6_6.toInt + 1 := by rw [ez_22]; exact jb_iadd2 (rfl) (by decide) (by omega)
            refine lv_goto (tgt := 19) hx hb dX6_find_148 (by decide) ?_
            exact L19 z_22 _ _ (hh_17.sub (L1 := []) [] rfl (M1 := []) [] rfl (I1 := []) [] rfl) (by first | omega | (refine ⟨?_, ?_⟩ <;> (first | omega | rfl | assumption | decide | exact Or.inl rfl | exact Or.inr rfl | (simp only; omega)))) (by omega) _ (lv_sub hl [3, 4, 5, 6, 7, 0] rfl)
          · skip
            have c_21' : z_20.toInt = 0 := jb_ne_n (rfl) ((by decide)) c_21
            refine lv_aload_n hx hb dX6_find_131 rfl (lv_at hl 2 rfl) ?_
            obtain ⟨v_23, hv_23, hh_24⟩ := hh_17.pin (C := RX6) (T := TX6) (N := 4) hB8 rfl (by decide) hg_r0 (i := 1) (by decide) rfl
            clear hh_17
            obtain ⟨primes_25, rfl, hg_primes_25⟩ := hv_23
            refine j7_read hx hb hown hK (C := RX6) (T := TX6) (N := 4) rfl hly_8_1 hlk_15 (hh_24.at 0 rfl) dX6_find_132 ?_
            refine lv_iload hx hb dX6_find_135 (lv_at hl 0 rfl) ?_
            refine j7_iald hx hb hK hh_24 hB132 1 rfl (by decide) hg_primes_25 (x := z_14.toInt) (rfl) (by omega) dX6_find_137 (fun z_26 (hz_26 : 0 ≤ z_26.toInt ∧ z_26.toInt ≤ 10) => ?_)
            refine lv_iload_n hx hb dX6_find_138 rfl (lv_at hl 4 rfl) ?_
            refine lv_icmp_ne (tgt := 145) hx hb dX6_find_139 (by decide) (fun c_27 => ?_) (fun c_27 => ?_)
            · skip
              have c_27' : z_26.toInt ≠ a3.toInt := jb_ne (rfl) (rfl) c_27
              obtain ⟨z_28, ez_28⟩ : ∃ y : Int32, y = v6_6 + 1 := ⟨_, rfl⟩
              refine lv_iinc (v := z_28) (lv' := [(6, .int z_28), (8, .int z_14), (7, .int z_9), (0, .ref r0), (1, .long a1), (3, .int a3), (4, .int a4), (5, .int z_5)]) hx hb dX6_find_145 hl (k := 7) rfl (by rw [ez_28]; rfl) (by decide) rfl (fun ls hl => ?_)
              have hz_28 : z_28.toInt = v6_6.toInt + 1 := by rw [ez_28]; exact jb_iadd2 (rfl) (by decide) (by omega)
              refine lv_goto (tgt := 19) hx hb dX6_find_148 (by decide) ?_
              exact L19 z_28 _ _ (hh_24.sub (L1 := []) [] rfl (M1 := []) [] rfl (I1 := []) [] rfl) (by first | omega | (refine ⟨?_, ?_⟩ <;> (first | omega | rfl | assumption | decide | exact Or.inl rfl | exact Or.inr rfl | (simp only; omega)))) (by omega) _ (lv_sub hl [3, 4, 5, 6, 7, 0] rfl)
            · skip
              have c_27' : z_26.toInt = a3.toInt := jb_ne_n (rfl) (rfl) c_27
              refine lv_iload hx hb dX6_find_142 (lv_at hl 0 rfl) ?_
              rw [hQ]
              exact W.iret (v := z_14) hx hb hr (fun t ht hW => ⟨⟨z_14, (), rfl, by first | omega | (refine ⟨?_, ?_⟩ <;> (first | omega | rfl | assumption | decide | exact Or.inl rfl | exact Or.inr rfl | (simp only; omega))), hh_24.rt (M1 := []) [] rfl ht⟩, by rw [ht]; try exact hh_24.1.1, fun q h9 hq => by rw [ht]; try exact hh_24.1.2.1 q h9 hq⟩) hh_24.1.2.2 dX6_find_144
        · skip
          have c_15' : z_14.toInt < 0 := jb_ge_n (rfl) ((by decide)) c_15
          refine lv_iload hx hb dX6_find_54 (lv_at hl 5 rfl) ?_
          refine lv_if_eq (tgt := 69) hx hb dX6_find_56 (by decide) (fun c_29 => ?_) (fun c_29 => ?_)
          · skip
            have c_29' : a4.toInt = 0 := jb_eq (rfl) ((by decide)) c_29
            refine lv_iconst (v := (-1)) hx hb dX6_find_69 (by decide) ?_
            rw [hQ]
            exact W.iret (v := (-1)) hx hb hr (fun t ht hW => ⟨⟨(-1), (), rfl, by first | omega | (refine ⟨?_, ?_⟩ <;> (first | omega | rfl | assumption | decide | exact Or.inl rfl | exact Or.inr rfl | (simp only; omega))), hh_11.rt (M1 := []) [] rfl ht⟩, by rw [ht]; try exact hh_11.1.1, fun q h9 hq => by rw [ht]; try exact hh_11.1.2.1 q h9 hq⟩) hh_11.1.2.2 dX6_find_70
          · skip
            have c_29' : a4.toInt ≠ 0 := jb_eq_n (rfl) ((by decide)) c_29
            refine lv_aload_n hx hb dX6_find_59 rfl (lv_at hl 2 rfl) ?_
            obtain ⟨v_30, hv_30, hh_31⟩ := hh_11.pin (C := RX6) (T := TX6) (N := 4) hB8 rfl (by decide) hg_r0 (i := 3) (by decide) rfl
            clear hh_11
            obtain ⟨count_32, rfl, hlocount_32, hhicount_32⟩ := hv_30
            refine j7_read hx hb hown hK (C := RX6) (T := TX6) (N := 4) rfl hly_8_3 hlk_52 (hh_31.at 0 rfl) dX6_find_60 ?_
            refine lv_sipush (v := 8192) hx hb dX6_find_63 (by decide) ?_
            refine lv_icmp_lt (tgt := 71) hx hb dX6_find_66 (by decide) (fun c_33 => ?_) (fun c_33 => ?_)
            · skip
              have c_33' : count_32.toInt < 8192 := jb_lt (rfl) ((by decide)) c_33
              refine lv_aload_n hx hb dX6_find_71 rfl (lv_at hl 2 rfl) ?_
              obtain ⟨v_34, hv_34, hh_35⟩ := hh_31.pin (C := RX6) (T := TX6) (N := 4) hB8 rfl (by decide) hg_r0 (i := 0) (by decide) rfl
              clear hh_31
              obtain ⟨stems_36, rfl, hg_stems_36⟩ := hv_34
              refine j7_read hx hb hown hK (C := RX6) (T := TX6) (N := 4) rfl hly_8_0 hlk_11 (hh_35.at 0 rfl) dX6_find_72 ?_
              refine lv_aload_n hx hb dX6_find_75 rfl (lv_at hl 2 rfl) ?_
              refine j7_read hx hb hown hK (C := RX6) (T := TX6) (N := 4) rfl hly_8_3 hlk_52 (hh_35.at 1 rfl) dX6_find_76 ?_
              refine lv_lload_n hx hb dX6_find_79 rfl (lv_at hl 3 rfl) ?_
              refine j7_last hx hb hK hh_35 hB hB102 2 rfl (by decide) (by decide) rfl rfl rfl hg_stems_36 (x := count_32.toInt) (rfl) (by omega) dX6_find_80 (fun H_37 locs_37 hh_37 => ?_)
              clear hh_35
              refine lv_aload_n hx hb dX6_find_81 rfl (lv_at hl 2 rfl) ?_
              obtain ⟨v_38, hv_38, hh_39⟩ := hh_37.pin (C := RX6) (T := TX6) (N := 4) hB8 rfl (by decide) hg_r0 (i := 1) (by decide) rfl
              clear hh_37
              obtain ⟨primes_40, rfl, hg_primes_40⟩ := hv_38
              refine j7_read hx hb hown hK (C := RX6) (T := TX6) (N := 4) rfl hly_8_1 hlk_15 (hh_39.at 0 rfl) dX6_find_82 ?_
              refine lv_aload_n hx hb dX6_find_85 rfl (lv_at hl 2 rfl) ?_
              refine j7_read hx hb hown hK (C := RX6) (T := TX6) (N := 4) rfl hly_8_3 hlk_52 (hh_39.at 2 rfl) dX6_find_86 ?_
              refine lv_iload_n hx hb dX6_find_89 rfl (lv_at hl 4 rfl) ?_
              refine j7_iast hx hb hK hh_39 hB hB132 1 rfl (by decide) (by decide) rfl rfl rfl hg_primes_40 (x := count_32.toInt) (rfl) (by omega) (by first | omega | (refine ⟨?_, ?_⟩ <;> (first | omega | rfl | assumption | decide | exact Or.inl rfl | exact Or.inr rfl | (simp only; omega)))) dX6_find_90 (fun H_41 locs_41 hh_41 => ?_)
              clear hh_39
              refine lv_aload_n hx hb dX6_find_91 rfl (lv_at hl 2 rfl) ?_
              refine lv_dup hx hb dX6_find_92 rfl ?_
              refine j7_read hx hb hown hK (C := RX6) (T := TX6) (N := 4) rfl hly_8_3 hlk_52 (hh_41.at 2 rfl) dX6_find_93 ?_
              refine lv_iconst (v := 1) hx hb dX6_find_96 (by decide) ?_
              refine lv_iadd hx hb dX6_find_97 ?_
              refine lv_topi (fun z_42 ez_42 => ?_)
              have hz_42 : z_42.toInt = count_32.toInt + 1 := by rw [ez_42]; exact jb_iadd2 (rfl) ((by decide)) (by omega)
              refine j7_put hx hb hown hK hh_41 hB hAp hB8 (C := RX6) (T := TX6) (N := 4) rfl (by decide) hg_r0 (i := 3) (by decide) hly_8_3 rfl hlk_52 rfl (ty := .int) (v := .int z_42) (by decide +kernel) rfl rfl (⟨_, rfl, by omega, by omega⟩) rfl (L1 := [(r0, 8, 1, .ref primes_40), (r0, 8, 0, .ref stems_36), (r0, 8, 2, .ref slots_12)]) [0, 1, 3] rfl rfl rfl dX6_find_98 (fun H_43 locs_43 hh_43 => ?_)
              clear hh_41
              refine lv_aload_n hx hb dX6_find_101 rfl (lv_at hl 2 rfl) ?_
              refine j7_read hx hb hown hK (C := RX6) (T := TX6) (N := 4) rfl hly_8_2 hlk_19 (hh_43.at 3 rfl) dX6_find_102 ?_
              refine lv_iload hx hb dX6_find_105 (lv_at hl 1 rfl) ?_
              refine lv_aload_n hx hb dX6_find_107 rfl (lv_at hl 2 rfl) ?_
              refine j7_read hx hb hown hK (C := RX6) (T := TX6) (N := 4) rfl hly_8_3 hlk_52 (hh_43.at 0 rfl) dX6_find_108 ?_
              refine j7_iast hx hb hK hh_43 hB hB133 1 rfl (by decide) (by decide) rfl rfl rfl hg_slots_12 (x := z_9.toInt) (rfl) (by omega) (by first | omega | (refine ⟨?_, ?_⟩ <;> (first | omega | rfl | assumption | decide | exact Or.inl rfl | exact Or.inr rfl | (simp only; omega)))) dX6_find_111 (fun H_44 locs_44 hh_44 => ?_)
              clear hh_43
              refine lv_aload_n hx hb dX6_find_112 rfl (lv_at hl 2 rfl) ?_
              refine j7_read hx hb hown hK (C := RX6) (T := TX6) (N := 4) rfl hly_8_3 hlk_52 (hh_44.at 0 rfl) dX6_find_113 ?_
              refine lv_iconst (v := 1) hx hb dX6_find_116 (by decide) ?_
              refine lv_isub hx hb dX6_find_117 ?_
              refine lv_topi (fun z_45 ez_45 => ?_)
              have hz_45 : z_45.toInt = z_42.toInt - 1 := by rw [ez_45]; exact jb_isub2 (rfl) ((by decide)) (by omega)
              rw [hQ]
              exact W.iret (v := z_45) hx hb hr (fun t ht hW => ⟨⟨z_45, (), rfl, by first | omega | (refine ⟨?_, ?_⟩ <;> (first | omega | rfl | assumption | decide | exact Or.inl rfl | exact Or.inr rfl | (simp only; omega))), hh_44.rt (M1 := []) [] rfl ht⟩, by rw [ht]; try exact hh_44.1.1, fun q h9 hq => by rw [ht]; try exact hh_44.1.2.1 q h9 hq⟩) hh_44.1.2.2 dX6_find_118
            · skip
              have c_33' : count_32.toInt ≥ 8192 := jb_lt_n (rfl) ((by decide)) c_33
              refine lv_iconst (v := (-1)) hx hb dX6_find_69 (by decide) ?_
              rw [hQ]
              exact W.iret (v := (-1)) hx hb hr (fun t ht hW => ⟨⟨(-1), (), rfl, by first | omega | (refine ⟨?_, ?_⟩ <;> (first | omega | rfl | assumption | decide | exact Or.inl rfl | exact Or.inr rfl | (simp only; omega))), hh_31.rt (M1 := []) [] rfl ht⟩, by rw [ht]; try exact hh_31.1.1, fun q h9 hq => by rw [ht]; try exact hh_31.1.2.1 q h9 hq⟩) hh_31.1.2.2 dX6_find_70
  exact L19 (16384 - (0 : Int32).toInt : Int).toNat.succ 0 _ _ hh (by first | omega | (refine ⟨?_, ?_⟩ <;> (first | omega | rfl | assumption | decide | exact Or.inl rfl | exact Or.inr rfl | (simp only; omega)))) (by omega) _ (lv_sub hl [2, 3, 4, 5, 1, 0] rfl)
set_option maxHeartbeats 4000000 in
set_option maxRecDepth 20000 in
theorem uX6_numberOf (l : Launch) (dC : Nat → ClassId) (dI : Nat → Nat → Nat) (ca : Nat → ClassId) (base : Nat) (B : jF) (hB : jBok B) (hAp : jAp (dC, dI)) (hB8 : ∀ n G a H, B 8 n G a H ↔ jOb (dC, dI) 8 4 (F8 n G) a H) (hB101 : ∀ n G a H, B 101 n G a H ↔ jAr (dC, dI) (ca 1) (fun j z => True) n a H) (hB102 : ∀ n G a H, B 102 n G a H ↔ jAl (dC, dI) (ca 2) n a H) (hB132 : ∀ n G a H, B 132 n G a H ↔ jAr (dC, dI) (ca 1) (fun j z => 0 ≤ z.toInt ∧ z.toInt ≤ 10) n a H) (hB133 : ∀ n G a H, B 133 n G a H ↔ jAr (dC, dI) (ca 1) (fun j z => 0 ≤ z.toInt ∧ z.toInt ≤ 8192) n a H) (G0 : jT) (H0 : Heap) (r0 : Nat) (r1 : Nat) (a2 : Int32) (a3 : Int32) (a4 : Int32) (n1 : Nat) : Met l yX6_numberOf (jw yX6_numberOf cX6_numberOf 10 (some .int)) ({ frames := 1, cells := 0, slots := 0, locals := 28 }) (va_Pc [.ref r0, .ref r1, .int a2, .int a3, .int a4] (fun U => U.heap = H0 ∧ jX B base G0 [] H0 ∧ jG dC dI ca base U ∧ G0 r1 = some (101, n1) ∧ G0 r0 = some (8, 0) ∧ jP (dC, dI) G0 H0 [] ∧ n1 < 2147483648)) (va_Qi (S := Unit) (fun r u => (-1 ≤ r.toInt ∧ r.toInt ≤ 8191)) (fun u t => jRt (dC, dI) B base G0 EX6_numberOf H0 [] t.heap) (jA base)) 0 0 (jA base) := by
  refine Met.ofW (cc := cX6_numberOf) (maxL := 10) (ret := (some .int)) (by decide) rfl ?_
  intro p e s m args below meth c s₁ Bd hml hv
  obtain ⟨rfl, hH0, hX, hG, hg_r1, hg_r0, hP0, hp0⟩ := hv
  have hK := hG.1
  have hx := Bd.exec
  have hb := Bd.bytes
  have hr := Bd.returns
  have hts := atoms_spec (ws := (jw yX6_numberOf cX6_numberOf 10 (some .int))) Bd.pre
  have htw : ∀ w ∈ jWl, w.before _ s = true := fun w h => hts w (List.mem_cons_of_mem _ h)
  have hown : s.vm.findClass RX6 = some m.cls := findClass_of_methodNamed Bd.named
  have hlocks := Bd.notSynchronized
  obtain ⟨Q, hQ⟩ : ∃ Q, Q = MQ below (va_Qi (S := Unit) (fun r u => (-1 ≤ r.toInt ∧ r.toInt ≤ 8191)) (fun u t => jRt (dC, dI) B base G0 EX6_numberOf H0 [] t.heap) (jA base)) ([.ref r0, .ref r1, .int a2, .int a3, .int a4] : List Value).toArray s 0 0 (jA base) := ⟨_, rfl⟩
  rw [← hQ]
  have hl := lv_entry ([.ref r0, .ref r1, .int a2, .int a3, .int a4]) (n := 10) (Nat.le_of_ble_eq_true rfl)
  rw [lg_entry_eq]
  generalize (lg_sl ([.ref r0, .ref r1, .int a2, .int a3, .int a4]) ++ List.replicate (10 - (lg_sl ([.ref r0, .ref r1, .int a2, .int a3, .int a4])).length) Slot.unset).toArray = ls at hl ⊢
  have hl : lv_has ls 10 [(0, .ref r0), (1, .ref r1), (2, .int a2), (3, .int a3), (4, .int a4)] := hl
  generalize hR : (headSpec (jw yX6_numberOf cX6_numberOf 10 (some .int)) ({ frames := 1, cells := 0, slots := 0, locals := 28 })).room = R
  subst hH0
  have hh : jSt (dC, dI) B base G0 G0 EX6_numberOf s.heap 0 0 [] [] [] s.heap [] := jSt.start hX hP0 jMc.nil jIs.nil
  clear hX hP0
  have hkm1 : ((-1) : Int32).toInt = (-1) := by decide
  have hk0 : (0 : Int32).toInt = 0 := by decide
  have hk1 : (1 : Int32).toInt = 1 := by decide
  have hk6 : (6 : Int32).toInt = 6 := by decide
  have hk10 : (10 : Int32).toInt = 10 := by decide
  have hk39 : (39 : Int32).toInt = 39 := by decide
  have hrg_a2 := jb_rng a2
  have hrg_a3 := jb_rng a3
  have hrg_a4 := jb_rng a4
  refine lv_iload_n hx hb dX6_numberOf_0 rfl (lv_at hl 2 rfl) ?_
  refine lv_if_lt (tgt := 32) hx hb dX6_numberOf_1 (by decide) (fun c_1 => ?_) (fun c_1 => ?_)
  · skip
    have c_1' : a2.toInt < 0 := jb_lt (rfl) ((by decide)) c_1
    refine lv_iconst (v := (-1)) hx hb dX6_numberOf_32 (by decide) ?_
    rw [hQ]
    exact W.iret (v := (-1)) hx hb hr (fun t ht hW => ⟨⟨(-1), (), rfl, by first | omega | (refine ⟨?_, ?_⟩ <;> (first | omega | rfl | assumption | decide | exact Or.inl rfl | exact Or.inr rfl | (simp only; omega))), hh.rt (M1 := []) [] rfl ht⟩, by rw [ht]; try exact hh.1.1, fun q h9 hq => by rw [ht]; try exact hh.1.2.1 q h9 hq⟩) hh.1.2.2 dX6_numberOf_33
  · skip
    have c_1' : a2.toInt ≥ 0 := jb_lt_n (rfl) ((by decide)) c_1
    refine lv_iload_n hx hb dX6_numberOf_4 rfl (lv_at hl 3 rfl) ?_
    refine lv_aload_n hx hb dX6_numberOf_5 rfl (lv_at hl 1 rfl) ?_
    refine j7_len hx hb hK hh hB101 1 rfl (by decide) hg_r1 (by omega) dX6_numberOf_6 (fun z_2 hz_2 => ?_)
    refine lv_icmp_gt (tgt := 32) hx hb dX6_numberOf_7 (by decide) (fun c_3 => ?_) (fun c_3 => ?_)
    · skip
      have c_3' : a3.toInt > z_2.toInt := jb_gt (rfl) (rfl) c_3
      refine lv_iconst (v := (-1)) hx hb dX6_numberOf_32 (by decide) ?_
      rw [hQ]
      exact W.iret (v := (-1)) hx hb hr (fun t ht hW => ⟨⟨(-1), (), rfl, by first | omega | (refine ⟨?_, ?_⟩ <;> (first | omega | rfl | assumption | decide | exact Or.inl rfl | exact Or.inr rfl | (simp only; omega))), hh.rt (M1 := []) [] rfl ht⟩, by rw [ht]; try exact hh.1.1, fun q h9 hq => by rw [ht]; try exact hh.1.2.1 q h9 hq⟩) hh.1.2.2 dX6_numberOf_33
    · skip
      have c_3' : a3.toInt ≤ z_2.toInt := jb_gt_n (rfl) (rfl) c_3
      refine lv_iload_n hx hb dX6_numberOf_10 rfl (lv_at hl 2 rfl) ?_
      refine lv_iload_n hx hb dX6_numberOf_11 rfl (lv_at hl 3 rfl) ?_
      refine lv_icmp_ge (tgt := 32) hx hb dX6_numberOf_12 (by decide) (fun c_4 => ?_) (fun c_4 => ?_)
      · skip
        have c_4' : a2.toInt ≥ a3.toInt := jb_ge (rfl) (rfl) c_4
        refine lv_iconst (v := (-1)) hx hb dX6_numberOf_32 (by decide) ?_
        rw [hQ]
        exact W.iret (v := (-1)) hx hb hr (fun t ht hW => ⟨⟨(-1), (), rfl, by first | omega | (refine ⟨?_, ?_⟩ <;> (first | omega | rfl | assumption | decide | exact Or.inl rfl | exact Or.inr rfl | (simp only; omega))), hh.rt (M1 := []) [] rfl ht⟩, by rw [ht]; try exact hh.1.1, fun q h9 hq => by rw [ht]; try exact hh.1.2.1 q h9 hq⟩) hh.1.2.2 dX6_numberOf_33
      · skip
        have c_4' : a2.toInt < a3.toInt := jb_ge_n (rfl) (rfl) c_4
        refine lv_iload_n hx hb dX6_numberOf_15 rfl (lv_at hl 3 rfl) ?_
        refine lv_iload_n hx hb dX6_numberOf_16 rfl (lv_at hl 2 rfl) ?_
        refine lv_isub hx hb dX6_numberOf_17 ?_
        refine lv_topi (fun z_5 ez_5 => ?_)
        have hz_5 : z_5.toInt = a3.toInt - a2.toInt := by rw [ez_5]; exact jb_isub2 (rfl) (rfl) (by omega)
        refine lv_bipush (v := 10) hx hb dX6_numberOf_18 (by decide) ?_
        refine lv_icmp_gt (tgt := 32) hx hb dX6_numberOf_20 (by decide) (fun c_6 => ?_) (fun c_6 => ?_)
        · skip
          have c_6' : z_5.toInt > 10 := jb_gt (rfl) ((by decide)) c_6
          refine lv_iconst (v := (-1)) hx hb dX6_numberOf_32 (by decide) ?_
          rw [hQ]
          exact W.iret (v := (-1)) hx hb hr (fun t ht hW => ⟨⟨(-1), (), rfl, by first | omega | (refine ⟨?_, ?_⟩ <;> (first | omega | rfl | assumption | decide | exact Or.inl rfl | exact Or.inr rfl | (simp only; omega))), hh.rt (M1 := []) [] rfl ht⟩, by rw [ht]; try exact hh.1.1, fun q h9 hq => by rw [ht]; try exact hh.1.2.1 q h9 hq⟩) hh.1.2.2 dX6_numberOf_33
        · skip
          have c_6' : z_5.toInt ≤ 10 := jb_gt_n (rfl) ((by decide)) c_6
          refine lv_aload_n hx hb dX6_numberOf_23 rfl (lv_at hl 1 rfl) ?_
          refine lv_iload_n hx hb dX6_numberOf_24 rfl (lv_at hl 2 rfl) ?_
          refine j7_iald hx hb hK hh hB101 1 rfl (by decide) hg_r1 (x := a2.toInt) (rfl) (by omega) dX6_numberOf_25 (fun z_7 (hz_7 : True) => ?_)
          refine vp_callSi (va_Run.run (va_runSN (As := [.int z_7]) (rest := []) ⟨hx, hb, hml, hown, hts⟩ (wX11_isLetter l dC dI ca base s.heap z_7) ⟨va_cnB 1 hts (jgW (jWr_7 _ (List.mem_of_getElem? (i := 18) rfl))) rfl rfl rfl (hG.2.2.1 RX6 38 yX11_isLetter "ProofServer" (List.mem_of_getElem? (i := 217) (by decide +kernel))) (htw (.initialized RX11) (jWr_1 _ (List.mem_of_getElem? (i := 2) rfl))) (by decide +kernel) ⟨by rw [← hR]; exact Nat.le_of_ble_eq_true rfl, by rw [← hR]; exact Nat.le_of_ble_eq_true rfl⟩, htw (.static yX11_isLetter) (jWr_7 _ (List.mem_of_getElem? (i := 17) rfl)), trivial⟩ ⟨fun a U g mk q => by obtain ⟨q0, q1, qK, q9⟩ := q; exact ⟨q0, q1, jG.calling g mk a qK, q9⟩, fun U hU hW => ⟨rfl, hU, hG.step hW hU hh.1, by first | trivial | omega | (constructor <;> omega)⟩⟩ rfl rfl hl.1 rfl (lv_room (Nat.le_of_ble_eq_true rfl)) dX6_numberOf_26 ⟨Nat.zero_le _, Nat.zero_le _⟩)) (fun r_8 hr_8 => ?_)
          have hr_8' : r_8.toInt = 0 ∨ r_8.toInt = 1 := jb_01 hr_8
          refine lv_if_ne (tgt := 34) hx hb dX6_numberOf_29 (by decide) (fun c_9 => ?_) (fun c_9 => ?_)
          · skip
            have c_9' : r_8.toInt ≠ 0 := jb_ne (rfl) ((by decide)) c_9
            refine lv_iload_n hx hb dX6_numberOf_34 rfl (lv_at hl 3 rfl) ?_
            refine lv_istore (lv' := [(5, .int a3), (0, .ref r0), (1, .ref r1), (2, .int a2), (3, .int a3), (4, .int a4)]) hx hb dX6_numberOf_35 hl (by decide) rfl (fun ls hl => ?_)
            have L37 : ∀ (N : Nat) (v5_10 : Int32) (H_10 : Heap) (locs_10 : List Loc), jSt (dC, dI) B base G0 G0 EX6_numberOf s.heap 0 0 [] [] [] H_10 locs_10 → (a2.toInt ≤ v5_10.toInt ∧ v5_10.toInt ≤ a3.toInt) → (v5_10.toInt - a2.toInt : Int) < N → ∀ ls : Array Slot, lv_has ls 10 [(0, .ref r0), (1, .ref r1), (2, .int a2), (3, .int a3), (4, .int a4), (5, .int v5_10)] → W p l e R s m ([.ref r0, .ref r1, .int a2, .int a3, .int a4] : List Value).toArray below meth c H_10 locs_10 0 0 Q (F0 m 37 ls []) := by
              intro N
              induction N with
              | zero => intro v5_10 H_10 locs_10 hh_10  hi_10 hm; exact absurd hm (by omega)
              | succ N L37 =>
                intro v5_10 H_10 locs_10 hh_10  hi_10 hm_10 ls hl
                obtain ⟨hi_10_0, hi_10_1⟩ := hi_10
                refine lv_iload hx hb dX6_numberOf_37 (lv_at hl 5 rfl) ?_
                refine lv_iload_n hx hb dX6_numberOf_39 rfl (lv_at hl 2 rfl) ?_
                refine lv_icmp_le (tgt := 60) hx hb dX6_numberOf_40 (by decide) (fun c_11 => ?_) (fun c_11 => ?_)
                · skip
                  have c_11' : v5_10.toInt ≤ a2.toInt := jb_le (rfl) (rfl) c_11
                  refine lv_lconst (v := 1) hx hb dX6_numberOf_60 (by decide) ?_
                  refine lv_lstore (lv' := [(6, .long 1), (0, .ref r0), (1, .ref r1), (2, .int a2), (3, .int a3), (4, .int a4), (5, .int v5_10)]) hx hb dX6_numberOf_61 hl (by decide) rfl (fun ls hl => ?_)
                  refine lv_iload hx hb dX6_numberOf_63 (lv_at hl 6 rfl) ?_
                  refine lv_iconst (v := 1) hx hb dX6_numberOf_65 (by decide) ?_
                  refine lv_isub hx hb dX6_numberOf_66 ?_
                  refine lv_topi (fun z_12 ez_12 => ?_)
                  have hz_12 : z_12.toInt = v5_10.toInt - 1 := by rw [ez_12]; exact jb_isub2 (rfl) ((by decide)) (by omega)
                  refine lv_istore (lv' := [(8, .int z_12), (6, .long 1), (0, .ref r0), (1, .ref r1), (2, .int a2), (3, .int a3), (4, .int a4), (5, .int v5_10)]) hx hb dX6_numberOf_67 hl (by decide) rfl (fun ls hl => ?_)
                  have L69 : ∀ (N : Nat) (v6_13 : Int64) (v8_13 : Int32) (H_13 : Heap) (locs_13 : List Loc), jSt (dC, dI) B base G0 G0 EX6_numberOf s.heap 0 0 [] [] [] H_13 locs_13 → (a2.toInt - 1 ≤ v8_13.toInt ∧ v8_13.toInt < a3.toInt) → (v8_13.toInt + 1 - a2.toInt : Int) < N → ∀ ls : Array Slot, lv_has ls 10 [(0, .ref r0), (1, .ref r1), (2, .int a2), (3, .int a3), (4, .int a4), (5, .int v5_10), (6, .long v6_13), (8, .int v8_13)] → W p l e R s m ([.ref r0, .ref r1, .int a2, .int a3, .int a4] : List Value).toArray below meth c H_13 locs_13 0 0 Q (F0 m 69 ls []) := by
                    intro N
                    induction N with
                    | zero => intro v6_13 v8_13 H_13 locs_13 hh_13  hi_13 hm; exact absurd hm (by omega)
                    | succ N L69 =>
                      intro v6_13 v8_13 H_13 locs_13 hh_13  hi_13 hm_13 ls hl
                      obtain ⟨hi_13_0, hi_13_1⟩ := hi_13
                      refine lv_iload hx hb dX6_numberOf_69 (lv_at hl 7 rfl) ?_
                      refine lv_iload_n hx hb dX6_numberOf_71 rfl (lv_at hl 2 rfl) ?_
                      refine lv_icmp_lt (tgt := 108) hx hb dX6_numberOf_72 (by decide) (fun c_14 => ?_) (fun c_14 => ?_)
                      · skip
                        have c_14' : v8_13.toInt < a2.toInt := jb_lt (rfl) (rfl) c_14
                        refine lv_aload_n hx hb dX6_numberOf_108 rfl (lv_at hl 0 rfl) ?_
                        refine lv_lload hx hb dX6_numberOf_109 (lv_at hl 6 rfl) ?_
                        refine lv_iload_n hx hb dX6_numberOf_111 rfl (lv_at hl 3 rfl) ?_
                        refine lv_iload hx hb dX6_numberOf_112 (lv_at hl 5 rfl) ?_
                        refine lv_isub hx hb dX6_numberOf_114 ?_
                        refine lv_topi (fun z_15 ez_15 => ?_)
                        have hz_15 : z_15.toInt = a3.toInt - v5_10.toInt := by rw [ez_15]; exact jb_isub2 (rfl) (rfl) (by omega)
                        refine lv_iload hx hb dX6_numberOf_115 (lv_at hl 4 rfl) ?_
                        refine va_calli (A0 := jA base) (H0 := s.heap) (va_runV (As := [.long v6_13, .int z_15, .int a4]) (rest := []) ⟨hx, hb, hml, hown, hts⟩ (uX6_find l dC dI ca base B hB hAp hB8 hB102 hB132 hB133 G0 H_13 r0 v6_13 z_15 a4) (cwV 3 hts (jgV (jWr_7 _ (List.mem_of_getElem? (i := 22) rfl)) (jWr_7 _ (List.mem_of_getElem? (i := 23) rfl)) (jWr_8 _ (List.mem_of_getElem? (i := 0) rfl)) (jWr_4 _ (List.mem_of_getElem? (i := 10) rfl)) (jWr_8 _ (List.mem_of_getElem? (i := 1) rfl))) rfl rfl rfl (by decide +kernel) ⟨by rw [← hR]; exact Nat.le_of_ble_eq_true rfl, by rw [← hR]; exact Nat.le_of_ble_eq_true rfl⟩) ⟨fun a U g mk q => by obtain ⟨q0, q1, q2, qK, q10, q11, q12⟩ := q; exact ⟨q0, q1, q2, jG.calling g mk a qK, q10, q11, q12⟩, hh_13.recv (C := RX6) (T := TX6) (N := 4) hB8 rfl (by decide) hg_r0 hK, fun U hU hW => ⟨rfl, hU, hh_13.2.1, hG.step hW hU hh_13.1, hg_r0, jP.nil, by first | omega | (refine ⟨?_, ?_⟩ <;> (first | omega | rfl | assumption | decide | exact Or.inl rfl | exact Or.inr rfl | (simp only; omega)))⟩⟩ rfl rfl hl.1 rfl (lv_room (Nat.le_of_ble_eq_true rfl)) dX6_numberOf_117 ⟨Nat.zero_le _, Nat.zero_le _⟩) hh_13.1 (fun q _ h => h) (fun q h => h) (fun r_17 u_16 t_16 H_16 locs_16 ht_16 hvm_16 hr_17 hb_16 hz_16 hk_16 hS_16 => ?_)
                        rw [ht_16] at hb_16
                        obtain ⟨hb_161, hb_162, hb_163, hb_164, hb_165⟩ := hb_16
                        have hh_16 : jSt (dC, dI) B base G0 G0 EX6_numberOf s.heap 0 0 [] [] [] H_16 locs_16 := ((hh_13.call hb_161 hb_162 hb_163 hb_164 hS_16 rfl (L1 := []) [] rfl rfl (M1 := []) [] rfl rfl (I1 := []) [] rfl rfl).more hb_165)
                        clear hh_13 ht_16 hvm_16 hz_16 hk_16 hS_16 hb_161 hb_162 hb_163 hb_164 hb_165
                        obtain ⟨hr_17_0, hr_17_1⟩ := hr_17
                        rw [hQ]
                        exact W.iret (v := r_17) hx hb hr (fun t ht hW => ⟨⟨r_17, (), rfl, by first | omega | (refine ⟨?_, ?_⟩ <;> (first | omega | rfl | assumption | decide | exact Or.inl rfl | exact Or.inr rfl | (simp only; omega))), hh_16.rt (M1 := []) [] rfl ht⟩, by rw [ht]; try exact hh_16.1.1, fun q h9 hq => by rw [ht]; try exact hh_16.1.2.1 q h9 hq⟩) hh_16.1.2.2 dX6_numberOf_120
                      · skip
                        have c_14' : v8_13.toInt ≥ a2.toInt := jb_lt_n (rfl) (rfl) c_14
                        refine lv_aload_n hx hb dX6_numberOf_75 rfl (lv_at hl 1 rfl) ?_
                        refine lv_iload hx hb dX6_numberOf_76 (lv_at hl 7 rfl) ?_
                        refine j7_iald hx hb hK hh_13 hB101 1 rfl (by decide) hg_r1 (x := v8_13.toInt) (rfl) (by omega) dX6_numberOf_78 (fun z_18 (hz_18 : True) => ?_)
                        refine vp_callSi (W.runS (As := [.int z_18]) (rest := []) ⟨hx, hb, hml, hown, hts⟩ (wX6_signOf l dC dI ca base H_13 z_18) (va_cwS 1 hts (jgS (jWr_7 _ (List.mem_of_getElem? (i := 19) rfl)) (jWr_7 _ (List.mem_of_getElem? (i := 20) rfl)) (jWr_4 _ (List.mem_of_getElem? (i := 10) rfl)) (jWr_7 _ (List.mem_of_getElem? (i := 21) rfl))) rfl rfl rfl (by decide +kernel) ⟨by rw [← hR]; exact Nat.le_of_ble_eq_true rfl, by rw [← hR]; exact Nat.le_of_ble_eq_true rfl⟩) ⟨fun a U g mk q => by obtain ⟨q0, q1, qK, q9⟩ := q; exact ⟨q0, q1, jG.calling g mk a qK, q9⟩, fun U hU hW => ⟨rfl, hU, hG.step hW hU hh_13.1, by first | trivial | omega | (constructor <;> omega)⟩⟩ rfl rfl hl.1 rfl (lv_room (Nat.le_of_ble_eq_true rfl)) dX6_numberOf_79 ⟨Nat.zero_le _, Nat.zero_le _⟩) (fun r_19 hr_19 => ?_)
                        refine lv_istore (lv' := [(9, .int r_19), (0, .ref r0), (1, .ref r1), (2, .int a2), (3, .int a3), (4, .int a4), (5, .int v5_10), (6, .long v6_13), (8, .int v8_13)]) hx hb dX6_numberOf_82 hl (by decide) rfl (fun ls hl => ?_)
                        refine lv_iload hx hb dX6_numberOf_84 (lv_at hl 0 rfl) ?_
                        refine lv_if_ge (tgt := 91) hx hb dX6_numberOf_86 (by decide) (fun c_20 => ?_) (fun c_20 => ?_)
                        · skip
                          have c_20' : r_19.toInt ≥ 0 := jb_ge (rfl) ((by decide)) c_20
                          refine lv_lload hx hb dX6_numberOf_91 (lv_at hl 7 rfl) ?_
                          refine lv_bipush (v := 6) hx hb dX6_numberOf_93 (by decide) ?_
                          refine lv_lshl hx hb dX6_numberOf_95 rfl ?_
                          refine lv_topl (fun z_21 ez_21 => ?_)
                          refine lv_iload hx hb dX6_numberOf_96 (lv_at hl 0 rfl) ?_
                          refine lv_i2l hx hb dX6_numberOf_98 rfl ?_
                          refine lv_topl (fun z_22 ez_22 => ?_)
                          refine lv_lor hx hb dX6_numberOf_99 ?_
                          refine lv_topl (fun z_23 ez_23 => ?_)
                          refine lv_lstore (lv' := [(6, .long z_23), (9, .int r_19), (0, .ref r0), (1, .ref r1), (2, .int a2), (3, .int a3), (4, .int a4), (5, .int v5_10), (8, .int v8_13)]) hx hb dX6_numberOf_100 hl (by decide) rfl (fun ls hl => ?_)
                          obtain ⟨z_24, ez_24⟩ : ∃ y : Int32, y = v8_13 + (-1) := ⟨_, rfl⟩
                          refine lv_iinc (v := z_24) (lv' := [(8, .int z_24), (6, .long z_23), (9, .int r_19), (0, .ref r0), (1, .ref r1), (2, .int a2), (3, .int a3), (4, .int a4), (5, .int v5_10)]) hx hb dX6_numberOf_102 hl (k := 8) rfl (by rw [ez_24]; rfl) (by decide) rfl (fun ls hl => ?_)
                          have hz_24 : z_24.toInt = v8_13.toInt + (-1) := by rw [ez_24]; exact jb_iadd2 (rfl) (by decide) (by omega)
                          refine lv_goto (tgt := 69) hx hb dX6_numberOf_105 (by decide) ?_
                          exact L69 z_23 z_24 _ _ hh_13 (by first | omega | (refine ⟨?_, ?_⟩ <;> (first | omega | rfl | assumption | decide | exact Or.inl rfl | exact Or.inr rfl | (simp only; omega)))) (by omega) _ (lv_sub hl [3, 4, 5, 6, 7, 8, 1, 0] rfl)
                        · skip
                          have c_20' : r_19.toInt < 0 := jb_ge_n (rfl) ((by decide)) c_20
                          refine lv_iconst (v := (-1)) hx hb dX6_numberOf_89 (by decide) ?_
                          rw [hQ]
                          exact W.iret (v := (-1)) hx hb hr (fun t ht hW => ⟨⟨(-1), (), rfl, by first | omega | (refine ⟨?_, ?_⟩ <;> (first | omega | rfl | assumption | decide | exact Or.inl rfl | exact Or.inr rfl | (simp only; omega))), hh_13.rt (M1 := []) [] rfl ht⟩, by rw [ht]; try exact hh_13.1.1, fun q h9 hq => by rw [ht]; try exact hh_13.1.2.1 q h9 hq⟩) hh_13.1.2.2 dX6_numberOf_90
                  exact L69 ((z_12 : Int32).toInt + 1 - a2.toInt : Int).toNat.succ 1 z_12 _ _ hh_10 (by first | omega | (refine ⟨?_, ?_⟩ <;> (first | omega | rfl | assumption | decide | exact Or.inl rfl | exact Or.inr rfl | (simp only; omega)))) (by omega) _ (lv_sub hl [2, 3, 4, 5, 6, 7, 1, 0] rfl)
                · skip
                  have c_11' : v5_10.toInt > a2.toInt := jb_le_n (rfl) (rfl) c_11
                  refine lv_aload_n hx hb dX6_numberOf_43 rfl (lv_at hl 1 rfl) ?_
                  refine lv_iload hx hb dX6_numberOf_44 (lv_at hl 5 rfl) ?_
                  refine lv_iconst (v := 1) hx hb dX6_numberOf_46 (by decide) ?_
                  refine lv_isub hx hb dX6_numberOf_47 ?_
                  refine lv_topi (fun z_25 ez_25 => ?_)
                  have hz_25 : z_25.toInt = v5_10.toInt - 1 := by rw [ez_25]; exact jb_isub2 (rfl) ((by decide)) (by omega)
                  refine j7_iald hx hb hK hh_10 hB101 1 rfl (by decide) hg_r1 (x := z_25.toInt) (rfl) (by omega) dX6_numberOf_48 (fun z_26 (hz_26 : True) => ?_)
                  refine lv_bipush (v := 39) hx hb dX6_numberOf_49 (by decide) ?_
                  refine lv_icmp_ne (tgt := 60) hx hb dX6_numberOf_51 (by decide) (fun c_27 => ?_) (fun c_27 => ?_)
                  · skip
                    have c_27' : z_26.toInt ≠ 39 := jb_ne (rfl) ((by decide)) c_27
                    refine lv_lconst (v := 1) hx hb dX6_numberOf_60 (by decide) ?_
                    refine lv_lstore (lv' := [(6, .long 1), (0, .ref r0), (1, .ref r1), (2, .int a2), (3, .int a3), (4, .int a4), (5, .int v5_10)]) hx hb dX6_numberOf_61 hl (by decide) rfl (fun ls hl => ?_)
                    refine lv_iload hx hb dX6_numberOf_63 (lv_at hl 6 rfl) ?_
                    refine lv_iconst (v := 1) hx hb dX6_numberOf_65 (by decide) ?_
                    refine lv_isub hx hb dX6_numberOf_66 ?_
                    refine lv_topi (fun z_28 ez_28 => ?_)
                    have hz_28 : z_28.toInt = v5_10.toInt - 1 := by rw [ez_28]; exact jb_isub2 (rfl) ((by decide)) (by omega)
                    refine lv_istore (lv' := [(8, .int z_28), (6, .long 1), (0, .ref r0), (1, .ref r1), (2, .int a2), (3, .int a3), (4, .int a4), (5, .int v5_10)]) hx hb dX6_numberOf_67 hl (by decide) rfl (fun ls hl => ?_)
                    have L69 : ∀ (N : Nat) (v6_29 : Int64) (v8_29 : Int32) (H_29 : Heap) (locs_29 : List Loc), jSt (dC, dI) B base G0 G0 EX6_numberOf s.heap 0 0 [] [] [] H_29 locs_29 → (a2.toInt - 1 ≤ v8_29.toInt ∧ v8_29.toInt < a3.toInt) → (v8_29.toInt + 1 - a2.toInt : Int) < N → ∀ ls : Array Slot, lv_has ls 10 [(0, .ref r0), (1, .ref r1), (2, .int a2), (3, .int a3), (4, .int a4), (5, .int v5_10), (6, .long v6_29), (8, .int v8_29)] → W p l e R s m ([.ref r0, .ref r1, .int a2, .int a3, .int a4] : List Value).toArray below meth c H_29 locs_29 0 0 Q (F0 m 69 ls []) := by
                      intro N
                      induction N with
                      | zero => intro v6_29 v8_29 H_29 locs_29 hh_29  hi_29 hm; exact absurd hm (by omega)
                      | succ N L69 =>
                        intro v6_29 v8_29 H_29 locs_29 hh_29  hi_29 hm_29 ls hl
                        obtain ⟨hi_29_0, hi_29_1⟩ := hi_29
                        refine lv_iload hx hb dX6_numberOf_69 (lv_at hl 7 rfl) ?_
                        refine lv_iload_n hx hb dX6_numberOf_71 rfl (lv_at hl 2 rfl) ?_
                        refine lv_icmp_lt (tgt := 108) hx hb dX6_numberOf_72 (by decide) (fun c_30 => ?_) (fun c_30 => ?_)
                        · skip
                          have c_30' : v8_29.toInt < a2.toInt := jb_lt (rfl) (rfl) c_30
                          refine lv_aload_n hx hb dX6_numberOf_108 rfl (lv_at hl 0 rfl) ?_
                          refine lv_lload hx hb dX6_numberOf_109 (lv_at hl 6 rfl) ?_
                          refine lv_iload_n hx hb dX6_numberOf_111 rfl (lv_at hl 3 rfl) ?_
                          refine lv_iload hx hb dX6_numberOf_112 (lv_at hl 5 rfl) ?_
                          refine lv_isub hx hb dX6_numberOf_114 ?_
                          refine lv_topi (fun z_31 ez_31 => ?_)
                          have hz_31 : z_31.toInt = a3.toInt - v5_10.toInt := by rw [ez_31]; exact jb_isub2 (rfl) (rfl) (by omega)
                          refine lv_iload hx hb dX6_numberOf_115 (lv_at hl 4 rfl) ?_
                          refine va_calli (A0 := jA base) (H0 := s.heap) (va_runV (As := [.long v6_29, .int z_31, .int a4]) (rest := []) ⟨hx, hb, hml, hown, hts⟩ (uX6_find l dC dI ca base B hB hAp hB8 hB102 hB132 hB133 G0 H_29 r0 v6_29 z_31 a4) (cwV 3 hts (jgV (jWr_7 _ (List.mem_of_getElem? (i := 22) rfl)) (jWr_7 _ (List.mem_of_getElem? (i := 23) rfl)) (jWr_8 _ (List.mem_of_getElem? (i := 0) rfl)) (jWr_4 _ (List.mem_of_getElem? (i := 10) rfl)) (jWr_8 _ (List.mem_of_getElem? (i := 1) rfl))) rfl rfl rfl (by decide +kernel) ⟨by rw [← hR]; exact Nat.le_of_ble_eq_true rfl, by rw [← hR]; exact Nat.le_of_ble_eq_true rfl⟩) ⟨fun a U g mk q => by obtain ⟨q0, q1, q2, qK, q10, q11, q12⟩ := q; exact ⟨q0, q1, q2, jG.calling g mk a qK, q10, q11, q12⟩, hh_29.recv (C := RX6) (T := TX6) (N := 4) hB8 rfl (by decide) hg_r0 hK, fun U hU hW => ⟨rfl, hU, hh_29.2.1, hG.step hW hU hh_29.1, hg_r0, jP.nil, by first | omega | (refine ⟨?_, ?_⟩ <;> (first | omega | rfl | assumption | decide | exact Or.inl rfl | exact Or.inr rfl | (simp only; omega)))⟩⟩ rfl rfl hl.1 rfl (lv_room (Nat.le_of_ble_eq_true rfl)) dX6_numberOf_117 ⟨Nat.zero_le _, Nat.zero_le _⟩) hh_29.1 (fun q _ h => h) (fun q h => h) (fun r_33 u_32 t_32 H_32 locs_32 ht_32 hvm_32 hr_33 hb_32 hz_32 hk_32 hS_32 => ?_)
                          rw [ht_32] at hb_32
                          obtain ⟨hb_321, hb_322, hb_323, hb_324, hb_325⟩ := hb_32
                          have hh_32 : jSt (dC, dI) B base G0 G0 EX6_numberOf s.heap 0 0 [] [] [] H_32 locs_32 := ((hh_29.call hb_321 hb_322 hb_323 hb_324 hS_32 rfl (L1 := []) [] rfl rfl (M1 := []) [] rfl rfl (I1 := []) [] rfl rfl).more hb_325)
                          clear hh_29 ht_32 hvm_32 hz_32 hk_32 hS_32 hb_321 hb_322 hb_323 hb_324 hb_325
                          obtain ⟨hr_33_0, hr_33_1⟩ := hr_33
                          rw [hQ]
                          exact W.iret (v := r_33) hx hb hr (fun t ht hW => ⟨⟨r_33, (), rfl, by first | omega | (refine ⟨?_, ?_⟩ <;> (first | omega | rfl | assumption | decide | exact Or.inl rfl | exact Or.inr rfl | (simp only; omega))), hh_32.rt (M1 := []) [] rfl ht⟩, by rw [ht]; try exact hh_32.1.1, fun q h9 hq => by rw [ht]; try exact hh_32.1.2.1 q h9 hq⟩) hh_32.1.2.2 dX6_numberOf_120
                        · skip
                          have c_30' : v8_29.toInt ≥ a2.toInt := jb_lt_n (rfl) (rfl) c_30
                          refine lv_aload_n hx hb dX6_numberOf_75 rfl (lv_at hl 1 rfl) ?_
                          refine lv_iload hx hb dX6_numberOf_76 (lv_at hl 7 rfl) ?_
                          refine j7_iald hx hb hK hh_29 hB101 1 rfl (by decide) hg_r1 (x := v8_29.toInt) (rfl) (by omega) dX6_numberOf_78 (fun z_34 (hz_34 : True) => ?_)
                          refine vp_callSi (W.runS (As := [.int z_34]) (rest := []) ⟨hx, hb, hml, hown, hts⟩ (wX6_signOf l dC dI ca base H_29 z_34) (va_cwS 1 hts (jgS (jWr_7 _ (List.mem_of_getElem? (i := 19) rfl)) (jWr_7 _ (List.mem_of_getElem? (i := 20) rfl)) (jWr_4 _ (List.mem_of_getElem? (i := 10) rfl)) (jWr_7 _ (List.mem_of_getElem? (i := 21) rfl))) rfl rfl rfl (by decide +kernel) ⟨by rw [← hR]; exact Nat.le_of_ble_eq_true rfl, by rw [← hR]; exact Nat.le_of_ble_eq_true rfl⟩) ⟨fun a U g mk q => by obtain ⟨q0, q1, qK, q9⟩ := q; exact ⟨q0, q1, jG.calling g mk a qK, q9⟩, fun U hU hW => ⟨rfl, hU, hG.step hW hU hh_29.1, by first | trivial | omega | (constructor <;> omega)⟩⟩ rfl rfl hl.1 rfl (lv_room (Nat.le_of_ble_eq_true rfl)) dX6_numberOf_79 ⟨Nat.zero_le _, Nat.zero_le _⟩) (fun r_35 hr_35 => ?_)
                          refine lv_istore (lv' := [(9, .int r_35), (0, .ref r0), (1, .ref r1), (2, .int a2), (3, .int a3), (4, .int a4), (5, .int v5_10), (6, .long v6_29), (8, .int v8_29)]) hx hb dX6_numberOf_82 hl (by decide) rfl (fun ls hl => ?_)
                          refine lv_iload hx hb dX6_numberOf_84 (lv_at hl 0 rfl) ?_
                          refine lv_if_ge (tgt := 91) hx hb dX6_numberOf_86 (by decide) (fun c_36 => ?_) (fun c_36 => ?_)
                          · skip
                            have c_36' : r_35.toInt ≥ 0 := jb_ge (rfl) ((by decide)) c_36
                            refine lv_lload hx hb dX6_numberOf_91 (lv_at hl 7 rfl) ?_
                            refine lv_bipush (v := 6) hx hb dX6_numberOf_93 (by decide) ?_
                            refine lv_lshl hx hb dX6_numberOf_95 rfl ?_
                            refine lv_topl (fun z_37 ez_37 => ?_)
                            refine lv_iload hx hb dX6_numberOf_96 (lv_at hl 0 rfl) ?_
                            refine lv_i2l hx hb dX6_numberOf_98 rfl ?_
                            refine lv_topl (fun z_38 ez_38 => ?_)
                            refine lv_lor hx hb dX6_numberOf_99 ?_
                            refine lv_topl (fun z_39 ez_39 => ?_)
                            refine lv_lstore (lv' := [(6, .long z_39), (9, .int r_35), (0, .ref r0), (1, .ref r1), (2, .int a2), (3, .int a3), (4, .int a4), (5, .int v5_10), (8, .int v8_29)]) hx hb dX6_numberOf_100 hl (by decide) rfl (fun ls hl => ?_)
                            obtain ⟨z_40, ez_40⟩ : ∃ y : Int32, y = v8_29 + (-1) := ⟨_, rfl⟩
                            refine lv_iinc (v := z_40) (lv' := [(8, .int z_40), (6, .long z_39), (9, .int r_35), (0, .ref r0), (1, .ref r1), (2, .int a2), (3, .int a3), (4, .int a4), (5, .int v5_10)]) hx hb dX6_numberOf_102 hl (k := 8) rfl (by rw [ez_40]; rfl) (by decide) rfl (fun ls hl => ?_)
                            have hz_40 : z_40.toInt = v8_29.toInt + (-1) := by rw [ez_40]; exact jb_iadd2 (rfl) (by decide) (by omega)
                            refine lv_goto (tgt := 69) hx hb dX6_numberOf_105 (by decide) ?_
                            exact L69 z_39 z_40 _ _ hh_29 (by first | omega | (refine ⟨?_, ?_⟩ <;> (first | omega | rfl | assumption | decide | exact Or.inl rfl | exact Or.inr rfl | (simp only; omega)))) (by omega) _ (lv_sub hl [3, 4, 5, 6, 7, 8, 1, 0] rfl)
                          · skip
                            have c_36' : r_35.toInt < 0 := jb_ge_n (rfl) ((by decide)) c_36
                            refine lv_iconst (v := (-1)) hx hb dX6_numberOf_89 (by decide) ?_
                            rw [hQ]
                            exact W.iret (v := (-1)) hx hb hr (fun t ht hW => ⟨⟨(-1), (), rfl, by first | omega | (refine ⟨?_, ?_⟩ <;> (first | omega | rfl | assumption | decide | exact Or.inl rfl | exact Or.inr rfl | (simp only; omega))), hh_29.rt (M1 := []) [] rfl ht⟩, by rw [ht]; try exact hh_29.1.1, fun q h9 hq => by rw [ht]; try exact hh_29.1.2.1 q h9 hq⟩) hh_29.1.2.2 dX6_numberOf_90
                    exact L69 ((z_28 : Int32).toInt + 1 - a2.toInt : Int).toNat.succ 1 z_28 _ _ hh_10 (by first | omega | (refine ⟨?_, ?_⟩ <;> (first | omega | rfl | assumption | decide | exact Or.inl rfl | exact Or.inr rfl | (simp only; omega)))) (by omega) _ (lv_sub hl [2, 3, 4, 5, 6, 7, 1, 0] rfl)
                  · skip
                    have c_27' : z_26.toInt = 39 := jb_ne_n (rfl) ((by decide)) c_27
                    obtain ⟨z_41, ez_41⟩ : ∃ y : Int32, y = v5_10 + (-1) := ⟨_, rfl⟩
                    refine lv_iinc (v := z_41) (lv' := [(5, .int z_41), (0, .ref r0), (1, .ref r1), (2, .int a2), (3, .int a3), (4, .int a4)]) hx hb dX6_numberOf_54 hl (k := 5) rfl (by rw [ez_41]; rfl) (by decide) rfl (fun ls hl => ?_)
                    have hz_41 : z_41.toInt = v5_10.toInt + (-1) := by rw [ez_41]; exact jb_iadd2 (rfl) (by decide) (by omega)
                    refine lv_goto (tgt := 37) hx hb dX6_numberOf_57 (by decide) ?_
                    exact L37 z_41 _ _ hh_10 (by first | omega | (refine ⟨?_, ?_⟩ <;> (first | omega | rfl | assumption | decide | exact Or.inl rfl | exact Or.inr rfl | (simp only; omega)))) (by omega) _ (lv_sub hl [1, 2, 3, 4, 5, 0] rfl)
            exact L37 ((a3 : Int32).toInt - a2.toInt : Int).toNat.succ a3 _ _ hh (by first | omega | (refine ⟨?_, ?_⟩ <;> (first | omega | rfl | assumption | decide | exact Or.inl rfl | exact Or.inr rfl | (simp only; omega)))) (by omega) _ (lv_sub hl [1, 2, 3, 4, 5, 0] rfl)
          · skip
            have c_9' : r_8.toInt = 0 := jb_ne_n (rfl) ((by decide)) c_9
            refine lv_iconst (v := (-1)) hx hb dX6_numberOf_32 (by decide) ?_
            rw [hQ]
            exact W.iret (v := (-1)) hx hb hr (fun t ht hW => ⟨⟨(-1), (), rfl, by first | omega | (refine ⟨?_, ?_⟩ <;> (first | omega | rfl | assumption | decide | exact Or.inl rfl | exact Or.inr rfl | (simp only; omega))), hh.rt (M1 := []) [] rfl ht⟩, by rw [ht]; try exact hh.1.1, fun q h9 hq => by rw [ht]; try exact hh.1.2.1 q h9 hq⟩) hh.1.2.2 dX6_numberOf_33
set_option maxHeartbeats 4000000 in
set_option maxRecDepth 20000 in
theorem uX10_peek (l : Launch) (dC : Nat → ClassId) (dI : Nat → Nat → Nat) (ca : Nat → ClassId) (base : Nat) (B : jF) (hB : jBok B) (hAp : jAp (dC, dI)) (hB12 : ∀ n G a H, B 12 n G a H ↔ jOb (dC, dI) 12 11 (F12 n G) a H) (hB101 : ∀ n G a H, B 101 n G a H ↔ jAr (dC, dI) (ca 1) (fun j z => True) n a H) (G0 : jT) (H0 : Heap) (r0 : Nat) (tk : Int32) (pa : Int32) : Met l yX10_peek (jw yX10_peek cX10_peek 1 (some .int)) ({ frames := 0, cells := 0, slots := 0, locals := 0 }) (va_Pc [.ref r0] (fun U => U.heap = H0 ∧ jX B base G0 [] H0 ∧ jG dC dI ca base U ∧ G0 r0 = some (12, 0) ∧ jP (dC, dI) G0 H0 [(r0, 12, 3, .int tk), (r0, 12, 4, .int pa)] ∧ 0 ≤ tk.toInt ∧ tk.toInt ≤ 1500 ∧ 0 ≤ pa.toInt ∧ pa.toInt ≤ 1503)) (va_Qi (S := Unit) (fun r u => (r.toInt = 0 ∨ pa.toInt < tk.toInt)) (fun u t => jRt (dC, dI) B base G0 EX10_peek H0 [] t.heap) (jA base)) 0 0 (jA base) := by
  refine Met.ofW (cc := cX10_peek) (maxL := 1) (ret := (some .int)) (by decide) rfl ?_
  intro p e s m args below meth c s₁ Bd hml hv
  obtain ⟨rfl, hH0, hX, hG, hg_r0, hP0, hp0, hp1, hp2, hp3⟩ := hv
  have hK := hG.1
  have hx := Bd.exec
  have hb := Bd.bytes
  have hr := Bd.returns
  have hts := atoms_spec (ws := (jw yX10_peek cX10_peek 1 (some .int))) Bd.pre
  have htw : ∀ w ∈ jWl, w.before _ s = true := fun w h => hts w (List.mem_cons_of_mem _ h)
  have hown : s.vm.findClass RX10 = some m.cls := findClass_of_methodNamed Bd.named
  have hlocks := Bd.notSynchronized
  obtain ⟨Q, hQ⟩ : ∃ Q, Q = MQ below (va_Qi (S := Unit) (fun r u => (r.toInt = 0 ∨ pa.toInt < tk.toInt)) (fun u t => jRt (dC, dI) B base G0 EX10_peek H0 [] t.heap) (jA base)) ([.ref r0] : List Value).toArray s 0 0 (jA base) := ⟨_, rfl⟩
  rw [← hQ]
  have hl := lv_entry ([.ref r0]) (n := 1) (Nat.le_of_ble_eq_true rfl)
  rw [lg_entry_eq]
  generalize (lg_sl ([.ref r0]) ++ List.replicate (1 - (lg_sl ([.ref r0])).length) Slot.unset).toArray = ls at hl ⊢
  have hl : lv_has ls 1 [(0, .ref r0)] := hl
  generalize hR : (headSpec (jw yX10_peek cX10_peek 1 (some .int)) ({ frames := 0, cells := 0, slots := 0, locals := 0 })).room = R
  subst hH0
  have hh : jSt (dC, dI) B base G0 G0 EX10_peek s.heap 0 0 [(r0, 12, 3, .int tk), (r0, 12, 4, .int pa)] [] [] s.heap [] := jSt.start hX hP0 jMc.nil jIs.nil
  clear hX hP0
  have hk0 : (0 : Int32).toInt = 0 := by decide
  have hk1 : (1 : Int32).toInt = 1 := by decide
  have hk1500 : (1500 : Int32).toInt = 1500 := by decide
  have hly_12_1 := htw (u_lay RX10 TX10 1) (jWc_wsX100 _ (u_in_lay (by decide)))
  have hly_12_3 := htw (u_lay RX10 TX10 3) (jWc_wsX100 _ (u_in_lay (by decide)))
  have hly_12_4 := htw (u_lay RX10 TX10 4) (jWc_wsX100 _ (u_in_lay (by decide)))
  have hlk_83 := (htw (.fieldLink RX10 83 "ProofServer$Syntax" "at" "I") (jWr_79 _ (List.mem_of_getElem? (i := 5) rfl)))
  have hlk_28 := (htw (.fieldLink RX10 28 "ProofServer$Syntax" "tokens" "I") (jWr_36 _ (List.mem_of_getElem? (i := 23) rfl)))
  have hlk_9 := (htw (.fieldLink RX10 9 "ProofServer$Syntax" "kinds" "[I") (jWr_8 _ (List.mem_of_getElem? (i := 8) rfl)))
  refine lv_aload_n hx hb dX10_peek_0 rfl (lv_at hl 0 rfl) ?_
  refine j7_read hx hb hown hK (C := RX10) (T := TX10) (N := 11) rfl hly_12_4 hlk_83 (hh.at 1 rfl) dX10_peek_1 ?_
  refine lv_aload_n hx hb dX10_peek_4 rfl (lv_at hl 0 rfl) ?_
  refine j7_read hx hb hown hK (C := RX10) (T := TX10) (N := 11) rfl hly_12_3 hlk_28 (hh.at 0 rfl) dX10_peek_5 ?_
  refine lv_icmp_ge (tgt := 33) hx hb dX10_peek_8 (by decide) (fun c_1 => ?_) (fun c_1 => ?_)
  · skip
    have c_1' : pa.toInt ≥ tk.toInt := jb_ge (rfl) (rfl) c_1
    refine lv_iconst (v := 0) hx hb dX10_peek_33 (by decide) ?_
    rw [hQ]
    exact W.iret (v := 0) hx hb hr (fun t ht hW => ⟨⟨0, (), rfl, by first | omega | rfl | assumption | decide | exact Or.inl rfl | exact Or.inr rfl | (simp only; omega), hh.rt (M1 := []) [] rfl ht⟩, by rw [ht]; try exact hh.1.1, fun q h9 hq => by rw [ht]; try exact hh.1.2.1 q h9 hq⟩) hh.1.2.2 dX10_peek_34
  · skip
    have c_1' : pa.toInt < tk.toInt := jb_ge_n (rfl) (rfl) c_1
    refine lv_aload_n hx hb dX10_peek_11 rfl (lv_at hl 0 rfl) ?_
    refine j7_read hx hb hown hK (C := RX10) (T := TX10) (N := 11) rfl hly_12_4 hlk_83 (hh.at 1 rfl) dX10_peek_12 ?_
    refine lv_sipush (v := 1500) hx hb dX10_peek_15 (by decide) ?_
    refine lv_icmp_ge (tgt := 33) hx hb dX10_peek_18 (by decide) (fun c_2 => ?_) (fun c_2 => ?_)
    · skip
      have c_2' : pa.toInt ≥ 1500 := jb_ge (rfl) ((by decide)) c_2
      refine lv_iconst (v := 0) hx hb dX10_peek_33 (by decide) ?_
      rw [hQ]
      exact W.iret (v := 0) hx hb hr (fun t ht hW => ⟨⟨0, (), rfl, by first | omega | rfl | assumption | decide | exact Or.inl rfl | exact Or.inr rfl | (simp only; omega), hh.rt (M1 := []) [] rfl ht⟩, by rw [ht]; try exact hh.1.1, fun q h9 hq => by rw [ht]; try exact hh.1.2.1 q h9 hq⟩) hh.1.2.2 dX10_peek_34
    · skip
      have c_2' : pa.toInt < 1500 := jb_ge_n (rfl) ((by decide)) c_2
      refine lv_aload_n hx hb dX10_peek_21 rfl (lv_at hl 0 rfl) ?_
      obtain ⟨v_3, hv_3, hh_4⟩ := hh.pin (C := RX10) (T := TX10) (N := 11) hB12 rfl (by decide) hg_r0 (i := 1) (by decide) rfl
      clear hh
      obtain ⟨kinds_5, rfl, hg_kinds_5⟩ := hv_3
      refine j7_read hx hb hown hK (C := RX10) (T := TX10) (N := 11) rfl hly_12_1 hlk_9 (hh_4.at 0 rfl) dX10_peek_22 ?_
      refine lv_aload_n hx hb dX10_peek_25 rfl (lv_at hl 0 rfl) ?_
      refine j7_read hx hb hown hK (C := RX10) (T := TX10) (N := 11) rfl hly_12_4 hlk_83 (hh_4.at 2 rfl) dX10_peek_26 ?_
      refine j7_iald hx hb hK hh_4 hB101 1 rfl (by decide) hg_kinds_5 (x := pa.toInt) (rfl) (by omega) dX10_peek_29 (fun z_6 (hz_6 : True) => ?_)
      refine lv_goto (tgt := 34) hx hb dX10_peek_30 (by decide) ?_
      rw [hQ]
      exact W.iret (v := z_6) hx hb hr (fun t ht hW => ⟨⟨z_6, (), rfl, by first | omega | rfl | assumption | decide | exact Or.inl rfl | exact Or.inr rfl | (simp only; omega), hh_4.rt (M1 := []) [] rfl ht⟩, by rw [ht]; try exact hh_4.1.1, fun q h9 hq => by rw [ht]; try exact hh_4.1.2.1 q h9 hq⟩) hh_4.1.2.2 dX10_peek_34
set_option maxHeartbeats 4000000 in
set_option maxRecDepth 20000 in
theorem uX10_peekName (l : Launch) (dC : Nat → ClassId) (dI : Nat → Nat → Nat) (ca : Nat → ClassId) (base : Nat) (B : jF) (hB : jBok B) (hAp : jAp (dC, dI)) (hB12 : ∀ n G a H, B 12 n G a H ↔ jOb (dC, dI) 12 11 (F12 n G) a H) (hB101 : ∀ n G a H, B 101 n G a H ↔ jAr (dC, dI) (ca 1) (fun j z => True) n a H) (G0 : jT) (H0 : Heap) (r0 : Nat) (tk : Int32) (pa : Int32) : Met l yX10_peekName (jw yX10_peekName cX10_peekName 1 (some .int)) ({ frames := 1, cells := 0, slots := 0, locals := 20 }) (va_Pc [.ref r0] (fun U => U.heap = H0 ∧ jX B base G0 [] H0 ∧ jG dC dI ca base U ∧ G0 r0 = some (12, 0) ∧ jP (dC, dI) G0 H0 [(r0, 12, 3, .int tk), (r0, 12, 4, .int pa)] ∧ 0 ≤ tk.toInt ∧ tk.toInt ≤ 1500 ∧ 0 ≤ pa.toInt ∧ pa.toInt ≤ 1503)) (va_Qi (S := Unit) (fun r u => (r.toInt = -1 ∨ pa.toInt < tk.toInt)) (fun u t => jRt (dC, dI) B base G0 EX10_peekName H0 [] t.heap) (jA base)) 0 0 (jA base) := by
  refine Met.ofW (cc := cX10_peekName) (maxL := 1) (ret := (some .int)) (by decide) rfl ?_
  intro p e s m args below meth c s₁ Bd hml hv
  obtain ⟨rfl, hH0, hX, hG, hg_r0, hP0, hp0, hp1, hp2, hp3⟩ := hv
  have hK := hG.1
  have hx := Bd.exec
  have hb := Bd.bytes
  have hr := Bd.returns
  have hts := atoms_spec (ws := (jw yX10_peekName cX10_peekName 1 (some .int))) Bd.pre
  have htw : ∀ w ∈ jWl, w.before _ s = true := fun w h => hts w (List.mem_cons_of_mem _ h)
  have hown : s.vm.findClass RX10 = some m.cls := findClass_of_methodNamed Bd.named
  have hlocks := Bd.notSynchronized
  obtain ⟨Q, hQ⟩ : ∃ Q, Q = MQ below (va_Qi (S := Unit) (fun r u => (r.toInt = -1 ∨ pa.toInt < tk.toInt)) (fun u t => jRt (dC, dI) B base G0 EX10_peekName H0 [] t.heap) (jA base)) ([.ref r0] : List Value).toArray s 0 0 (jA base) := ⟨_, rfl⟩
  rw [← hQ]
  have hl := lv_entry ([.ref r0]) (n := 1) (Nat.le_of_ble_eq_true rfl)
  rw [lg_entry_eq]
  generalize (lg_sl ([.ref r0]) ++ List.replicate (1 - (lg_sl ([.ref r0])).length) Slot.unset).toArray = ls at hl ⊢
  have hl : lv_has ls 1 [(0, .ref r0)] := hl
  generalize hR : (headSpec (jw yX10_peekName cX10_peekName 1 (some .int)) ({ frames := 1, cells := 0, slots := 0, locals := 20 })).room = R
  subst hH0
  have hh : jSt (dC, dI) B base G0 G0 EX10_peekName s.heap 0 0 [(r0, 12, 3, .int tk), (r0, 12, 4, .int pa)] [] [] s.heap [] := jSt.start hX hP0 jMc.nil jIs.nil
  clear hX hP0
  have hkm1 : ((-1) : Int32).toInt = (-1) := by decide
  have hk0 : (0 : Int32).toInt = 0 := by decide
  have hk1 : (1 : Int32).toInt = 1 := by decide
  have hk110 : (110 : Int32).toInt = 110 := by decide
  have hly_12_2 := htw (u_lay RX10 TX10 2) (jWc_wsX100 _ (u_in_lay (by decide)))
  have hly_12_4 := htw (u_lay RX10 TX10 4) (jWc_wsX100 _ (u_in_lay (by decide)))
  have hlk_15 := (htw (.fieldLink RX10 15 "ProofServer$Syntax" "values" "[I") (jWr_8 _ (List.mem_of_getElem? (i := 9) rfl)))
  have hlk_83 := (htw (.fieldLink RX10 83 "ProofServer$Syntax" "at" "I") (jWr_79 _ (List.mem_of_getElem? (i := 5) rfl)))
  refine lv_aload_n hx hb dX10_peekName_0 rfl (lv_at hl 0 rfl) ?_
  refine va_calli (A0 := jA base) (H0 := s.heap) (va_runV (As := []) (rest := []) ⟨hx, hb, hml, hown, hts⟩ (uX10_peek l dC dI ca base B hB hAp hB12 hB101 G0 s.heap r0 tk pa) (cwV 0 hts (jgV (jWr_79 _ (List.mem_of_getElem? (i := 18) rfl)) (jWr_79 _ (List.mem_of_getElem? (i := 19) rfl)) (jWr_79 _ (List.mem_of_getElem? (i := 20) rfl)) (jWr_4 _ (List.mem_of_getElem? (i := 14) rfl)) (jWr_79 _ (List.mem_of_getElem? (i := 21) rfl))) rfl rfl rfl (by decide +kernel) ⟨by rw [← hR]; exact Nat.le_of_ble_eq_true rfl, by rw [← hR]; exact Nat.le_of_ble_eq_true rfl⟩) ⟨fun a U g mk q => by obtain ⟨q0, q1, q2, qK, q10, q11, q12⟩ := q; exact ⟨q0, q1, q2, jG.calling g mk a qK, q10, q11, q12⟩, hh.recv (C := RX10) (T := TX10) (N := 11) hB12 rfl (by decide) hg_r0 hK, fun U hU hW => ⟨rfl, hU, hh.2.1, hG.step hW hU hh.1, hg_r0, (hh.2.2.1.sub (L1 := [(r0, 12, 3, .int tk), (r0, 12, 4, .int pa)]) [0, 1] rfl), by first | omega | (refine ⟨?_, ?_, ?_, ?_⟩ <;> (first | omega | rfl | assumption | decide | exact Or.inl rfl | exact Or.inr rfl | (simp only; omega)))⟩⟩ rfl rfl hl.1 rfl (lv_room (Nat.le_of_ble_eq_true rfl)) dX10_peekName_1 ⟨Nat.zero_le _, Nat.zero_le _⟩) hh.1 (fun q _ h => h) (fun q h => h) (fun r_2 u_1 t_1 H_1 locs_1 ht_1 hvm_1 hr_2 hb_1 hz_1 hk_1 hS_1 => ?_)
  rw [ht_1] at hb_1
  obtain ⟨hb_11, hb_12, hb_13, hb_14, hb_15⟩ := hb_1
  have hh_1 : jSt (dC, dI) B base G0 G0 EX10_peekName s.heap 0 0 [(r0, 12, 3, .int tk), (r0, 12, 4, .int pa)] [] [] H_1 locs_1 := ((hh.call hb_11 hb_12 hb_13 hb_14 hS_1 rfl (L1 := [(r0, 12, 3, .int tk), (r0, 12, 4, .int pa)]) [0, 1] rfl rfl (M1 := []) [] rfl rfl (I1 := []) [] rfl rfl).more hb_15)
  clear hh ht_1 hvm_1 hz_1 hk_1 hS_1 hb_11 hb_12 hb_13 hb_14 hb_15
  refine lv_bipush (v := 110) hx hb dX10_peekName_4 (by decide) ?_
  refine lv_icmp_ne (tgt := 21) hx hb dX10_peekName_6 (by decide) (fun c_3 => ?_) (fun c_3 => ?_)
  · skip
    have c_3' : r_2.toInt ≠ 110 := jb_ne (rfl) ((by decide)) c_3
    try clear hr_2
    refine lv_iconst (v := (-1)) hx hb dX10_peekName_21 (by decide) ?_
    rw [hQ]
    exact W.iret (v := (-1)) hx hb hr (fun t ht hW => ⟨⟨(-1), (), rfl, by first | omega | rfl | assumption | decide | exact Or.inl rfl | exact Or.inr rfl | (simp only; omega), hh_1.rt (M1 := []) [] rfl ht⟩, by rw [ht]; try exact hh_1.1.1, fun q h9 hq => by rw [ht]; try exact hh_1.1.2.1 q h9 hq⟩) hh_1.1.2.2 dX10_peekName_22
  · skip
    have c_3' : r_2.toInt = 110 := jb_ne_n (rfl) ((by decide)) c_3
    first | (have hr_2q := hr_2.resolve_left (by omega); clear hr_2) | (have hr_2q := hr_2.resolve_right (by omega); clear hr_2) | try clear hr_2
    refine lv_aload_n hx hb dX10_peekName_9 rfl (lv_at hl 0 rfl) ?_
    obtain ⟨v_4, hv_4, hh_5⟩ := hh_1.pin (C := RX10) (T := TX10) (N := 11) hB12 rfl (by decide) hg_r0 (i := 2) (by decide) rfl
    clear hh_1
    obtain ⟨values_6, rfl, hg_values_6⟩ := hv_4
    refine j7_read hx hb hown hK (C := RX10) (T := TX10) (N := 11) rfl hly_12_2 hlk_15 (hh_5.at 0 rfl) dX10_peekName_10 ?_
    refine lv_aload_n hx hb dX10_peekName_13 rfl (lv_at hl 0 rfl) ?_
    refine j7_read hx hb hown hK (C := RX10) (T := TX10) (N := 11) rfl hly_12_4 hlk_83 (hh_5.at 2 rfl) dX10_peekName_14 ?_
    refine j7_iald hx hb hK hh_5 hB101 1 rfl (by decide) hg_values_6 (x := pa.toInt) (rfl) (by omega) dX10_peekName_17 (fun z_7 (hz_7 : True) => ?_)
    refine lv_goto (tgt := 22) hx hb dX10_peekName_18 (by decide) ?_
    rw [hQ]
    exact W.iret (v := z_7) hx hb hr (fun t ht hW => ⟨⟨z_7, (), rfl, by first | omega | rfl | assumption | decide | exact Or.inl rfl | exact Or.inr rfl | (simp only; omega), hh_5.rt (M1 := []) [] rfl ht⟩, by rw [ht]; try exact hh_5.1.1, fun q h9 hq => by rw [ht]; try exact hh_5.1.2.1 q h9 hq⟩) hh_5.1.2.2 dX10_peekName_22
set_option maxHeartbeats 4000000 in
set_option maxRecDepth 20000 in
theorem uX10_isSign (l : Launch) (dC : Nat → ClassId) (dI : Nat → Nat → Nat) (ca : Nat → ClassId) (base : Nat) (B : jF) (hB : jBok B) (hAp : jAp (dC, dI)) (hB12 : ∀ n G a H, B 12 n G a H ↔ jOb (dC, dI) 12 11 (F12 n G) a H) (hB101 : ∀ n G a H, B 101 n G a H ↔ jAr (dC, dI) (ca 1) (fun j z => True) n a H) (G0 : jT) (H0 : Heap) (r0 : Nat) (a1 : Int32) (tk : Int32) (pa : Int32) : Met l yX10_isSign (jw yX10_isSign cX10_isSign 3 (some .boolean)) ({ frames := 0, cells := 0, slots := 0, locals := 0 }) (va_Pc [.ref r0, .int a1] (fun U => U.heap = H0 ∧ jX B base G0 [] H0 ∧ jG dC dI ca base U ∧ G0 r0 = some (12, 0) ∧ jP (dC, dI) G0 H0 [(r0, 12, 3, .int tk), (r0, 12, 4, .int pa)] ∧ 0 ≤ tk.toInt ∧ tk.toInt ≤ 1500 ∧ 0 ≤ pa.toInt ∧ pa.toInt ≤ 1503 ∧ pa.toInt ≤ tk.toInt + 2)) (va_Qi (S := Int32) (fun r u => (r = 0 ∨ r = 1) ∧ (u.toInt = pa.toInt + 1 ∧ (r.toInt = 0 ∨ pa.toInt < tk.toInt))) (fun u t => jRt (dC, dI) B base G0 EX10_isSign H0 [(r0, 12, 4, .int u)] t.heap) (jA base)) 0 0 (jA base) := by
  refine Met.ofW (cc := cX10_isSign) (maxL := 3) (ret := (some .boolean)) (by decide) rfl ?_
  intro p e s m args below meth c s₁ Bd hml hv
  obtain ⟨rfl, hH0, hX, hG, hg_r0, hP0, hp0, hp1, hp2, hp3, hp4⟩ := hv
  have hK := hG.1
  have hx := Bd.exec
  have hb := Bd.bytes
  have hr := Bd.returns
  have hts := atoms_spec (ws := (jw yX10_isSign cX10_isSign 3 (some .boolean))) Bd.pre
  have htw : ∀ w ∈ jWl, w.before _ s = true := fun w h => hts w (List.mem_cons_of_mem _ h)
  have hown : s.vm.findClass RX10 = some m.cls := findClass_of_methodNamed Bd.named
  have hlocks := Bd.notSynchronized
  obtain ⟨Q, hQ⟩ : ∃ Q, Q = MQ below (va_Qi (S := Int32) (fun r u => (r = 0 ∨ r = 1) ∧ (u.toInt = pa.toInt + 1 ∧ (r.toInt = 0 ∨ pa.toInt < tk.toInt))) (fun u t => jRt (dC, dI) B base G0 EX10_isSign H0 [(r0, 12, 4, .int u)] t.heap) (jA base)) ([.ref r0, .int a1] : List Value).toArray s 0 0 (jA base) := ⟨_, rfl⟩
  rw [← hQ]
  have hl := lv_entry ([.ref r0, .int a1]) (n := 3) (Nat.le_of_ble_eq_true rfl)
  rw [lg_entry_eq]
  generalize (lg_sl ([.ref r0, .int a1]) ++ List.replicate (3 - (lg_sl ([.ref r0, .int a1])).length) Slot.unset).toArray = ls at hl ⊢
  have hl : lv_has ls 3 [(0, .ref r0), (1, .int a1)] := hl
  generalize hR : (headSpec (jw yX10_isSign cX10_isSign 3 (some .boolean)) ({ frames := 0, cells := 0, slots := 0, locals := 0 })).room = R
  subst hH0
  have hh : jSt (dC, dI) B base G0 G0 EX10_isSign s.heap 0 0 [(r0, 12, 3, .int tk), (r0, 12, 4, .int pa)] [] [] s.heap [] := jSt.start hX hP0 jMc.nil jIs.nil
  clear hX hP0
  have hk0 : (0 : Int32).toInt = 0 := by decide
  have hk1 : (1 : Int32).toInt = 1 := by decide
  have hk1500 : (1500 : Int32).toInt = 1500 := by decide
  have hly_12_1 := htw (u_lay RX10 TX10 1) (jWc_wsX100 _ (u_in_lay (by decide)))
  have hly_12_3 := htw (u_lay RX10 TX10 3) (jWc_wsX100 _ (u_in_lay (by decide)))
  have hly_12_4 := htw (u_lay RX10 TX10 4) (jWc_wsX100 _ (u_in_lay (by decide)))
  have hlk_83 := (htw (.fieldLink RX10 83 "ProofServer$Syntax" "at" "I") (jWr_79 _ (List.mem_of_getElem? (i := 5) rfl)))
  have hlk_28 := (htw (.fieldLink RX10 28 "ProofServer$Syntax" "tokens" "I") (jWr_36 _ (List.mem_of_getElem? (i := 23) rfl)))
  have hlk_9 := (htw (.fieldLink RX10 9 "ProofServer$Syntax" "kinds" "[I") (jWr_8 _ (List.mem_of_getElem? (i := 8) rfl)))
  have hrg_a1 := jb_rng a1
  refine lv_aload_n hx hb dX10_isSign_0 rfl (lv_at hl 0 rfl) ?_
  refine j7_read hx hb hown hK (C := RX10) (T := TX10) (N := 11) rfl hly_12_4 hlk_83 (hh.at 1 rfl) dX10_isSign_1 ?_
  refine lv_aload_n hx hb dX10_isSign_4 rfl (lv_at hl 0 rfl) ?_
  refine j7_read hx hb hown hK (C := RX10) (T := TX10) (N := 11) rfl hly_12_3 hlk_28 (hh.at 0 rfl) dX10_isSign_5 ?_
  refine lv_icmp_ge (tgt := 38) hx hb dX10_isSign_8 (by decide) (fun c_1 => ?_) (fun c_1 => ?_)
  · skip
    have c_1' : pa.toInt ≥ tk.toInt := jb_ge (rfl) (rfl) c_1
    refine lv_iconst (v := 0) hx hb dX10_isSign_38 (by decide) ?_
    refine lv_istore_n (lv' := [(2, .int 0), (0, .ref r0), (1, .int a1)]) hx hb dX10_isSign_39 rfl hl (by decide) rfl (fun ls hl => ?_)
    refine lv_aload_n hx hb dX10_isSign_40 rfl (lv_at hl 1 rfl) ?_
    refine lv_dup hx hb dX10_isSign_41 rfl ?_
    refine j7_read hx hb hown hK (C := RX10) (T := TX10) (N := 11) rfl hly_12_4 hlk_83 (hh.at 1 rfl) dX10_isSign_42 ?_
    refine lv_iconst (v := 1) hx hb dX10_isSign_45 (by decide) ?_
    refine lv_iadd hx hb dX10_isSign_46 ?_
    refine lv_topi (fun z_2 ez_2 => ?_)
    have hz_2 : z_2.toInt = pa.toInt + 1 := by rw [ez_2]; exact jb_iadd2 (rfl) ((by decide)) (by omega)
    refine j7_put hx hb hown hK hh hB hAp hB12 (C := RX10) (T := TX10) (N := 11) rfl (by decide) hg_r0 (i := 4) (by decide) hly_12_4 rfl hlk_83 rfl (ty := .int) (v := .int z_2) (by decide +kernel) rfl rfl (⟨_, rfl, by omega, by omega⟩) rfl (L1 := [(r0, 12, 3, .int tk)]) [0] rfl rfl rfl dX10_isSign_47 (fun H_3 locs_3 hh_3 => ?_)
    clear hh
    refine lv_iload_n hx hb dX10_isSign_50 rfl (lv_at hl 0 rfl) ?_
    rw [hQ]
    exact W.zret (v := 0) hx hb hr (jb_nz (Or.inl rfl)) (fun t ht hW => ⟨⟨0, z_2, rfl, ⟨(Or.inl rfl), by first | omega | (refine ⟨?_, ?_⟩ <;> (first | omega | rfl | assumption | decide | exact Or.inl rfl | exact Or.inr rfl | (simp only; omega)))⟩, hh_3.rt (M1 := [(r0, 12, 4, .int z_2)]) [0] rfl ht⟩, by rw [ht]; try exact hh_3.1.1, fun q h9 hq => by rw [ht]; try exact hh_3.1.2.1 q h9 hq⟩) hh_3.1.2.2 dX10_isSign_51
  · skip
    have c_1' : pa.toInt < tk.toInt := jb_ge_n (rfl) (rfl) c_1
    refine lv_aload_n hx hb dX10_isSign_11 rfl (lv_at hl 0 rfl) ?_
    refine j7_read hx hb hown hK (C := RX10) (T := TX10) (N := 11) rfl hly_12_4 hlk_83 (hh.at 1 rfl) dX10_isSign_12 ?_
    refine lv_sipush (v := 1500) hx hb dX10_isSign_15 (by decide) ?_
    refine lv_icmp_ge (tgt := 38) hx hb dX10_isSign_18 (by decide) (fun c_4 => ?_) (fun c_4 => ?_)
    · skip
      have c_4' : pa.toInt ≥ 1500 := jb_ge (rfl) ((by decide)) c_4
      refine lv_iconst (v := 0) hx hb dX10_isSign_38 (by decide) ?_
      refine lv_istore_n (lv' := [(2, .int 0), (0, .ref r0), (1, .int a1)]) hx hb dX10_isSign_39 rfl hl (by decide) rfl (fun ls hl => ?_)
      refine lv_aload_n hx hb dX10_isSign_40 rfl (lv_at hl 1 rfl) ?_
      refine lv_dup hx hb dX10_isSign_41 rfl ?_
      refine j7_read hx hb hown hK (C := RX10) (T := TX10) (N := 11) rfl hly_12_4 hlk_83 (hh.at 1 rfl) dX10_isSign_42 ?_
      refine lv_iconst (v := 1) hx hb dX10_isSign_45 (by decide) ?_
      refine lv_iadd hx hb dX10_isSign_46 ?_
      refine lv_topi (fun z_5 ez_5 => ?_)
      have hz_5 : z_5.toInt = pa.toInt + 1 := by rw [ez_5]; exact jb_iadd2 (rfl) ((by decide)) (by omega)
      refine j7_put hx hb hown hK hh hB hAp hB12 (C := RX10) (T := TX10) (N := 11) rfl (by decide) hg_r0 (i := 4) (by decide) hly_12_4 rfl hlk_83 rfl (ty := .int) (v := .int z_5) (by decide +kernel) rfl rfl (⟨_, rfl, by omega, by omega⟩) rfl (L1 := [(r0, 12, 3, .int tk)]) [0] rfl rfl rfl dX10_isSign_47 (fun H_6 locs_6 hh_6 => ?_)
      clear hh
      refine lv_iload_n hx hb dX10_isSign_50 rfl (lv_at hl 0 rfl) ?_
      rw [hQ]
      exact W.zret (v := 0) hx hb hr (jb_nz (Or.inl rfl)) (fun t ht hW => ⟨⟨0, z_5, rfl, ⟨(Or.inl rfl), by first | omega | (refine ⟨?_, ?_⟩ <;> (first | omega | rfl | assumption | decide | exact Or.inl rfl | exact Or.inr rfl | (simp only; omega)))⟩, hh_6.rt (M1 := [(r0, 12, 4, .int z_5)]) [0] rfl ht⟩, by rw [ht]; try exact hh_6.1.1, fun q h9 hq => by rw [ht]; try exact hh_6.1.2.1 q h9 hq⟩) hh_6.1.2.2 dX10_isSign_51
    · skip
      have c_4' : pa.toInt < 1500 := jb_ge_n (rfl) ((by decide)) c_4
      refine lv_aload_n hx hb dX10_isSign_21 rfl (lv_at hl 0 rfl) ?_
      obtain ⟨v_7, hv_7, hh_8⟩ := hh.pin (C := RX10) (T := TX10) (N := 11) hB12 rfl (by decide) hg_r0 (i := 1) (by decide) rfl
      clear hh
      obtain ⟨kinds_9, rfl, hg_kinds_9⟩ := hv_7
      refine j7_read hx hb hown hK (C := RX10) (T := TX10) (N := 11) rfl hly_12_1 hlk_9 (hh_8.at 0 rfl) dX10_isSign_22 ?_
      refine lv_aload_n hx hb dX10_isSign_25 rfl (lv_at hl 0 rfl) ?_
      refine j7_read hx hb hown hK (C := RX10) (T := TX10) (N := 11) rfl hly_12_4 hlk_83 (hh_8.at 2 rfl) dX10_isSign_26 ?_
      refine j7_iald hx hb hK hh_8 hB101 1 rfl (by decide) hg_kinds_9 (x := pa.toInt) (rfl) (by omega) dX10_isSign_29 (fun z_10 (hz_10 : True) => ?_)
      refine lv_iload_n hx hb dX10_isSign_30 rfl (lv_at hl 1 rfl) ?_
      refine lv_icmp_ne (tgt := 38) hx hb dX10_isSign_31 (by decide) (fun c_11 => ?_) (fun c_11 => ?_)
      · skip
        have c_11' : z_10.toInt ≠ a1.toInt := jb_ne (rfl) (rfl) c_11
        refine lv_iconst (v := 0) hx hb dX10_isSign_38 (by decide) ?_
        refine lv_istore_n (lv' := [(2, .int 0), (0, .ref r0), (1, .int a1)]) hx hb dX10_isSign_39 rfl hl (by decide) rfl (fun ls hl => ?_)
        refine lv_aload_n hx hb dX10_isSign_40 rfl (lv_at hl 1 rfl) ?_
        refine lv_dup hx hb dX10_isSign_41 rfl ?_
        refine j7_read hx hb hown hK (C := RX10) (T := TX10) (N := 11) rfl hly_12_4 hlk_83 (hh_8.at 2 rfl) dX10_isSign_42 ?_
        refine lv_iconst (v := 1) hx hb dX10_isSign_45 (by decide) ?_
        refine lv_iadd hx hb dX10_isSign_46 ?_
        refine lv_topi (fun z_12 ez_12 => ?_)
        have hz_12 : z_12.toInt = pa.toInt + 1 := by rw [ez_12]; exact jb_iadd2 (rfl) ((by decide)) (by omega)
        refine j7_put hx hb hown hK hh_8 hB hAp hB12 (C := RX10) (T := TX10) (N := 11) rfl (by decide) hg_r0 (i := 4) (by decide) hly_12_4 rfl hlk_83 rfl (ty := .int) (v := .int z_12) (by decide +kernel) rfl rfl (⟨_, rfl, by omega, by omega⟩) rfl (L1 := [(r0, 12, 1, .ref kinds_9), (r0, 12, 3, .int tk)]) [0, 1] rfl rfl rfl dX10_isSign_47 (fun H_13 locs_13 hh_13 => ?_)
        clear hh_8
        refine lv_iload_n hx hb dX10_isSign_50 rfl (lv_at hl 0 rfl) ?_
        rw [hQ]
        exact W.zret (v := 0) hx hb hr (jb_nz (Or.inl rfl)) (fun t ht hW => ⟨⟨0, z_12, rfl, ⟨(Or.inl rfl), by first | omega | (refine ⟨?_, ?_⟩ <;> (first | omega | rfl | assumption | decide | exact Or.inl rfl | exact Or.inr rfl | (simp only; omega)))⟩, hh_13.rt (M1 := [(r0, 12, 4, .int z_12)]) [0] rfl ht⟩, by rw [ht]; try exact hh_13.1.1, fun q h9 hq => by rw [ht]; try exact hh_13.1.2.1 q h9 hq⟩) hh_13.1.2.2 dX10_isSign_51
      · skip
        have c_11' : z_10.toInt = a1.toInt := jb_ne_n (rfl) (rfl) c_11
        refine lv_iconst (v := 1) hx hb dX10_isSign_34 (by decide) ?_
        refine lv_goto (tgt := 39) hx hb dX10_isSign_35 (by decide) ?_
        refine lv_istore_n (lv' := [(2, .int 1), (0, .ref r0), (1, .int a1)]) hx hb dX10_isSign_39 rfl hl (by decide) rfl (fun ls hl => ?_)
        refine lv_aload_n hx hb dX10_isSign_40 rfl (lv_at hl 1 rfl) ?_
        refine lv_dup hx hb dX10_isSign_41 rfl ?_
        refine j7_read hx hb hown hK (C := RX10) (T := TX10) (N := 11) rfl hly_12_4 hlk_83 (hh_8.at 2 rfl) dX10_isSign_42 ?_
        refine lv_iconst (v := 1) hx hb dX10_isSign_45 (by decide) ?_
        refine lv_iadd hx hb dX10_isSign_46 ?_
        refine lv_topi (fun z_14 ez_14 => ?_)
        have hz_14 : z_14.toInt = pa.toInt + 1 := by rw [ez_14]; exact jb_iadd2 (rfl) ((by decide)) (by omega)
        refine j7_put hx hb hown hK hh_8 hB hAp hB12 (C := RX10) (T := TX10) (N := 11) rfl (by decide) hg_r0 (i := 4) (by decide) hly_12_4 rfl hlk_83 rfl (ty := .int) (v := .int z_14) (by decide +kernel) rfl rfl (⟨_, rfl, by omega, by omega⟩) rfl (L1 := [(r0, 12, 1, .ref kinds_9), (r0, 12, 3, .int tk)]) [0, 1] rfl rfl rfl dX10_isSign_47 (fun H_15 locs_15 hh_15 => ?_)
        clear hh_8
        refine lv_iload_n hx hb dX10_isSign_50 rfl (lv_at hl 0 rfl) ?_
        rw [hQ]
        exact W.zret (v := 1) hx hb hr (jb_nz (Or.inr rfl)) (fun t ht hW => ⟨⟨1, z_14, rfl, ⟨(Or.inr rfl), by first | omega | (refine ⟨?_, ?_⟩ <;> (first | omega | rfl | assumption | decide | exact Or.inl rfl | exact Or.inr rfl | (simp only; omega)))⟩, hh_15.rt (M1 := [(r0, 12, 4, .int z_14)]) [0] rfl ht⟩, by rw [ht]; try exact hh_15.1.1, fun q h9 hq => by rw [ht]; try exact hh_15.1.2.1 q h9 hq⟩) hh_15.1.2.2 dX10_isSign_51
set_option maxHeartbeats 4000000 in
set_option maxRecDepth 20000 in
theorem uX10_isName (l : Launch) (dC : Nat → ClassId) (dI : Nat → Nat → Nat) (ca : Nat → ClassId) (base : Nat) (B : jF) (hB : jBok B) (hAp : jAp (dC, dI)) (hB12 : ∀ n G a H, B 12 n G a H ↔ jOb (dC, dI) 12 11 (F12 n G) a H) (hB101 : ∀ n G a H, B 101 n G a H ↔ jAr (dC, dI) (ca 1) (fun j z => True) n a H) (G0 : jT) (H0 : Heap) (r0 : Nat) (tk : Int32) (pa : Int32) : Met l yX10_isName (jw yX10_isName cX10_isName 2 (some .boolean)) ({ frames := 2, cells := 0, slots := 0, locals := 40 }) (va_Pc [.ref r0] (fun U => U.heap = H0 ∧ jX B base G0 [] H0 ∧ jG dC dI ca base U ∧ G0 r0 = some (12, 0) ∧ jP (dC, dI) G0 H0 [(r0, 12, 3, .int tk), (r0, 12, 4, .int pa)] ∧ 0 ≤ tk.toInt ∧ tk.toInt ≤ 1500 ∧ 0 ≤ pa.toInt ∧ pa.toInt ≤ 1503 ∧ pa.toInt ≤ tk.toInt + 2)) (va_Qi (S := Int32) (fun r u => (r = 0 ∨ r = 1) ∧ (u.toInt = pa.toInt + 1 ∧ (r.toInt = 0 ∨ pa.toInt < tk.toInt))) (fun u t => jRt (dC, dI) B base G0 EX10_isName H0 [(r0, 12, 4, .int u)] t.heap) (jA base)) 0 0 (jA base) := by
  refine Met.ofW (cc := cX10_isName) (maxL := 2) (ret := (some .boolean)) (by decide) rfl ?_
  intro p e s m args below meth c s₁ Bd hml hv
  obtain ⟨rfl, hH0, hX, hG, hg_r0, hP0, hp0, hp1, hp2, hp3, hp4⟩ := hv
  have hK := hG.1
  have hx := Bd.exec
  have hb := Bd.bytes
  have hr := Bd.returns
  have hts := atoms_spec (ws := (jw yX10_isName cX10_isName 2 (some .boolean))) Bd.pre
  have htw : ∀ w ∈ jWl, w.before _ s = true := fun w h => hts w (List.mem_cons_of_mem _ h)
  have hown : s.vm.findClass RX10 = some m.cls := findClass_of_methodNamed Bd.named
  have hlocks := Bd.notSynchronized
  obtain ⟨Q, hQ⟩ : ∃ Q, Q = MQ below (va_Qi (S := Int32) (fun r u => (r = 0 ∨ r = 1) ∧ (u.toInt = pa.toInt + 1 ∧ (r.toInt = 0 ∨ pa.toInt < tk.toInt))) (fun u t => jRt (dC, dI) B base G0 EX10_isName H0 [(r0, 12, 4, .int u)] t.heap) (jA base)) ([.ref r0] : List Value).toArray s 0 0 (jA base) := ⟨_, rfl⟩
  rw [← hQ]
  have hl := lv_entry ([.ref r0]) (n := 2) (Nat.le_of_ble_eq_true rfl)
  rw [lg_entry_eq]
  generalize (lg_sl ([.ref r0]) ++ List.replicate (2 - (lg_sl ([.ref r0])).length) Slot.unset).toArray = ls at hl ⊢
  have hl : lv_has ls 2 [(0, .ref r0)] := hl
  generalize hR : (headSpec (jw yX10_isName cX10_isName 2 (some .boolean)) ({ frames := 2, cells := 0, slots := 0, locals := 40 })).room = R
  subst hH0
  have hh : jSt (dC, dI) B base G0 G0 EX10_isName s.heap 0 0 [(r0, 12, 3, .int tk), (r0, 12, 4, .int pa)] [] [] s.heap [] := jSt.start hX hP0 jMc.nil jIs.nil
  clear hX hP0
  have hk0 : (0 : Int32).toInt = 0 := by decide
  have hk1 : (1 : Int32).toInt = 1 := by decide
  have hk2 : (2 : Int32).toInt = 2 := by decide
  have hly_12_4 := htw (u_lay RX10 TX10 4) (jWc_wsX100 _ (u_in_lay (by decide)))
  have hly_12_6 := htw (u_lay RX10 TX10 6) (jWc_wsX100 _ (u_in_lay (by decide)))
  have hly_12_7 := htw (u_lay RX10 TX10 7) (jWc_wsX100 _ (u_in_lay (by decide)))
  have hlk_83 := (htw (.fieldLink RX10 83 "ProofServer$Syntax" "at" "I") (jWr_79 _ (List.mem_of_getElem? (i := 5) rfl)))
  have hlk_86 := (htw (.fieldLink RX10 86 "ProofServer$Syntax" "toldCount" "I") (jWr_79 _ (List.mem_of_getElem? (i := 6) rfl)))
  have hlk_18 := (htw (.fieldLink RX10 18 "ProofServer$Syntax" "told" "[I") (jWr_8 _ (List.mem_of_getElem? (i := 10) rfl)))
  refine lv_aload_n hx hb dX10_isName_0 rfl (lv_at hl 0 rfl) ?_
  refine va_calli (A0 := jA base) (H0 := s.heap) (va_runV (As := []) (rest := []) ⟨hx, hb, hml, hown, hts⟩ (uX10_peekName l dC dI ca base B hB hAp hB12 hB101 G0 s.heap r0 tk pa) (cwV 0 hts (jgV (jWr_79 _ (List.mem_of_getElem? (i := 14) rfl)) (jWr_79 _ (List.mem_of_getElem? (i := 15) rfl)) (jWr_79 _ (List.mem_of_getElem? (i := 16) rfl)) (jWr_4 _ (List.mem_of_getElem? (i := 14) rfl)) (jWr_79 _ (List.mem_of_getElem? (i := 17) rfl))) rfl rfl rfl (by decide +kernel) ⟨by rw [← hR]; exact Nat.le_of_ble_eq_true rfl, by rw [← hR]; exact Nat.le_of_ble_eq_true rfl⟩) ⟨fun a U g mk q => by obtain ⟨q0, q1, q2, qK, q10, q11, q12⟩ := q; exact ⟨q0, q1, q2, jG.calling g mk a qK, q10, q11, q12⟩, hh.recv (C := RX10) (T := TX10) (N := 11) hB12 rfl (by decide) hg_r0 hK, fun U hU hW => ⟨rfl, hU, hh.2.1, hG.step hW hU hh.1, hg_r0, (hh.2.2.1.sub (L1 := [(r0, 12, 3, .int tk), (r0, 12, 4, .int pa)]) [0, 1] rfl), by first | omega | (refine ⟨?_, ?_, ?_, ?_⟩ <;> (first | omega | rfl | assumption | decide | exact Or.inl rfl | exact Or.inr rfl | (simp only; omega)))⟩⟩ rfl rfl hl.1 rfl (lv_room (Nat.le_of_ble_eq_true rfl)) dX10_isName_1 ⟨Nat.zero_le _, Nat.zero_le _⟩) hh.1 (fun q _ h => h) (fun q h => h) (fun r_2 u_1 t_1 H_1 locs_1 ht_1 hvm_1 hr_2 hb_1 hz_1 hk_1 hS_1 => ?_)
  rw [ht_1] at hb_1
  obtain ⟨hb_11, hb_12, hb_13, hb_14, hb_15⟩ := hb_1
  have hh_1 : jSt (dC, dI) B base G0 G0 EX10_isName s.heap 0 0 [(r0, 12, 3, .int tk), (r0, 12, 4, .int pa)] [] [] H_1 locs_1 := ((hh.call hb_11 hb_12 hb_13 hb_14 hS_1 rfl (L1 := [(r0, 12, 3, .int tk), (r0, 12, 4, .int pa)]) [0, 1] rfl rfl (M1 := []) [] rfl rfl (I1 := []) [] rfl rfl).more hb_15)
  clear hh ht_1 hvm_1 hz_1 hk_1 hS_1 hb_11 hb_12 hb_13 hb_14 hb_15
  refine lv_istore_n (lv' := [(1, .int r_2), (0, .ref r0)]) hx hb dX10_isName_4 rfl hl (by decide) rfl (fun ls hl => ?_)
  refine lv_aload_n hx hb dX10_isName_5 rfl (lv_at hl 1 rfl) ?_
  refine lv_dup hx hb dX10_isName_6 rfl ?_
  refine j7_read hx hb hown hK (C := RX10) (T := TX10) (N := 11) rfl hly_12_4 hlk_83 (hh_1.at 1 rfl) dX10_isName_7 ?_
  refine lv_iconst (v := 1) hx hb dX10_isName_10 (by decide) ?_
  refine lv_iadd hx hb dX10_isName_11 ?_
  refine lv_topi (fun z_3 ez_3 => ?_)
  have hz_3 : z_3.toInt = pa.toInt + 1 := by rw [ez_3]; exact jb_iadd2 (rfl) ((by decide)) (by omega)
  refine j7_put hx hb hown hK hh_1 hB hAp hB12 (C := RX10) (T := TX10) (N := 11) rfl (by decide) hg_r0 (i := 4) (by decide) hly_12_4 rfl hlk_83 rfl (ty := .int) (v := .int z_3) (by decide +kernel) rfl rfl (⟨_, rfl, by omega, by omega⟩) rfl (L1 := [(r0, 12, 3, .int tk)]) [0] rfl rfl rfl dX10_isName_12 (fun H_4 locs_4 hh_4 => ?_)
  clear hh_1
  refine lv_iload_n hx hb dX10_isName_15 rfl (lv_at hl 0 rfl) ?_
  refine lv_iconst (v := 2) hx hb dX10_isName_16 (by decide) ?_
  refine lv_icmp_le (tgt := 32) hx hb dX10_isName_17 (by decide) (fun c_5 => ?_) (fun c_5 => ?_)
  · skip
    have c_5' : r_2.toInt ≤ 2 := jb_le (rfl) ((by decide)) c_5
    first | (have hr_2q := hr_2.resolve_left (by omega); clear hr_2) | (have hr_2q := hr_2.resolve_right (by omega); clear hr_2) | skip
    refine lv_iconst (v := 0) hx hb dX10_isName_32 (by decide) ?_
    rw [hQ]
    exact W.zret (v := 0) hx hb hr (jb_nz (Or.inl rfl)) (fun t ht hW => ⟨⟨0, z_3, rfl, ⟨(Or.inl rfl), by first | omega | (refine ⟨?_, ?_⟩ <;> (first | omega | rfl | assumption | decide | exact Or.inl rfl | exact Or.inr rfl | (simp only; omega)))⟩, hh_4.rt (M1 := [(r0, 12, 4, .int z_3)]) [0] rfl ht⟩, by rw [ht]; try exact hh_4.1.1, fun q h9 hq => by rw [ht]; try exact hh_4.1.2.1 q h9 hq⟩) hh_4.1.2.2 dX10_isName_33
  · skip
    have c_5' : r_2.toInt > 2 := jb_le_n (rfl) ((by decide)) c_5
    first | (have hr_2q := hr_2.resolve_left (by omega); clear hr_2) | (have hr_2q := hr_2.resolve_right (by omega); clear hr_2) | skip
    refine lv_aload_n hx hb dX10_isName_20 rfl (lv_at hl 1 rfl) ?_
    obtain ⟨v_6, hv_6, hh_7⟩ := hh_4.pin (C := RX10) (T := TX10) (N := 11) hB12 rfl (by decide) hg_r0 (i := 7) (by decide) rfl
    clear hh_4
    obtain ⟨toldCount_8, rfl, hlotoldCount_8, hhitoldCount_8⟩ := hv_6
    refine j7_read hx hb hown hK (C := RX10) (T := TX10) (N := 11) rfl hly_12_7 hlk_86 (hh_7.at 0 rfl) dX10_isName_21 ?_
    refine lv_aload_n hx hb dX10_isName_24 rfl (lv_at hl 1 rfl) ?_
    obtain ⟨v_9, hv_9, hh_10⟩ := hh_7.pin (C := RX10) (T := TX10) (N := 11) hB12 rfl (by decide) hg_r0 (i := 6) (by decide) rfl
    clear hh_7
    obtain ⟨told_11, rfl, hg_told_11⟩ := hv_9
    refine j7_read hx hb hown hK (C := RX10) (T := TX10) (N := 11) rfl hly_12_6 hlk_18 (hh_10.at 0 rfl) dX10_isName_25 ?_
    refine j7_len hx hb hK hh_10 hB101 1 rfl (by decide) hg_told_11 (by omega) dX10_isName_28 (fun z_12 hz_12 => ?_)
    refine lv_icmp_lt (tgt := 34) hx hb dX10_isName_29 (by decide) (fun c_13 => ?_) (fun c_13 => ?_)
    · skip
      have c_13' : toldCount_8.toInt < z_12.toInt := jb_lt (rfl) (rfl) c_13
      refine lv_aload_n hx hb dX10_isName_34 rfl (lv_at hl 1 rfl) ?_
      refine j7_read hx hb hown hK (C := RX10) (T := TX10) (N := 11) rfl hly_12_6 hlk_18 (hh_10.at 0 rfl) dX10_isName_35 ?_
      refine lv_aload_n hx hb dX10_isName_38 rfl (lv_at hl 1 rfl) ?_
      refine j7_read hx hb hown hK (C := RX10) (T := TX10) (N := 11) rfl hly_12_7 hlk_86 (hh_10.at 1 rfl) dX10_isName_39 ?_
      refine lv_iload_n hx hb dX10_isName_42 rfl (lv_at hl 0 rfl) ?_
      refine j7_iast hx hb hK hh_10 hB hB101 1 rfl (by decide) (by decide) rfl rfl rfl hg_told_11 (x := toldCount_8.toInt) (rfl) (by omega) (trivial) dX10_isName_43 (fun H_14 locs_14 hh_14 => ?_)
      clear hh_10
      refine lv_aload_n hx hb dX10_isName_44 rfl (lv_at hl 1 rfl) ?_
      refine lv_dup hx hb dX10_isName_45 rfl ?_
      refine j7_read hx hb hown hK (C := RX10) (T := TX10) (N := 11) rfl hly_12_7 hlk_86 (hh_14.at 1 rfl) dX10_isName_46 ?_
      refine lv_iconst (v := 1) hx hb dX10_isName_49 (by decide) ?_
      refine lv_iadd hx hb dX10_isName_50 ?_
      refine lv_topi (fun z_15 ez_15 => ?_)
      have hz_15 : z_15.toInt = toldCount_8.toInt + 1 := by rw [ez_15]; exact jb_iadd2 (rfl) ((by decide)) (by omega)
      refine j7_put hx hb hown hK hh_14 hB hAp hB12 (C := RX10) (T := TX10) (N := 11) rfl (by decide) hg_r0 (i := 7) (by decide) hly_12_7 rfl hlk_86 rfl (ty := .int) (v := .int z_15) (by decide +kernel) rfl rfl (⟨_, rfl, by omega, by omega⟩) rfl (L1 := [(r0, 12, 6, .ref told_11), (r0, 12, 4, .int z_3), (r0, 12, 3, .int tk)]) [0, 2, 3] rfl rfl rfl dX10_isName_51 (fun H_16 locs_16 hh_16 => ?_)
      clear hh_14
      refine lv_iconst (v := 1) hx hb dX10_isName_54 (by decide) ?_
      rw [hQ]
      exact W.zret (v := 1) hx hb hr (jb_nz (Or.inr rfl)) (fun t ht hW => ⟨⟨1, z_3, rfl, ⟨(Or.inr rfl), by first | omega | (refine ⟨?_, ?_⟩ <;> (first | omega | rfl | assumption | decide | exact Or.inl rfl | exact Or.inr rfl | (simp only; omega)))⟩, hh_16.rt (M1 := [(r0, 12, 4, .int z_3)]) [2] rfl ht⟩, by rw [ht]; try exact hh_16.1.1, fun q h9 hq => by rw [ht]; try exact hh_16.1.2.1 q h9 hq⟩) hh_16.1.2.2 dX10_isName_55
    · skip
      have c_13' : toldCount_8.toInt ≥ z_12.toInt := jb_lt_n (rfl) (rfl) c_13
      refine lv_iconst (v := 0) hx hb dX10_isName_32 (by decide) ?_
      rw [hQ]
      exact W.zret (v := 0) hx hb hr (jb_nz (Or.inl rfl)) (fun t ht hW => ⟨⟨0, z_3, rfl, ⟨(Or.inl rfl), by first | omega | (refine ⟨?_, ?_⟩ <;> (first | omega | rfl | assumption | decide | exact Or.inl rfl | exact Or.inr rfl | (simp only; omega)))⟩, hh_10.rt (M1 := [(r0, 12, 4, .int z_3)]) [2] rfl ht⟩, by rw [ht]; try exact hh_10.1.1, fun q h9 hq => by rw [ht]; try exact hh_10.1.2.1 q h9 hq⟩) hh_10.1.2.2 dX10_isName_33
set_option maxHeartbeats 4000000 in
set_option maxRecDepth 20000 in
theorem uX10_isArity (l : Launch) (dC : Nat → ClassId) (dI : Nat → Nat → Nat) (ca : Nat → ClassId) (base : Nat) (B : jF) (hB : jBok B) (hAp : jAp (dC, dI)) (hB12 : ∀ n G a H, B 12 n G a H ↔ jOb (dC, dI) 12 11 (F12 n G) a H) (hB101 : ∀ n G a H, B 101 n G a H ↔ jAr (dC, dI) (ca 1) (fun j z => True) n a H) (G0 : jT) (H0 : Heap) (r0 : Nat) (tk : Int32) (pa : Int32) : Met l yX10_isArity (jw yX10_isArity cX10_isArity 1 (some .boolean)) ({ frames := 1, cells := 0, slots := 0, locals := 20 }) (va_Pc [.ref r0] (fun U => U.heap = H0 ∧ jX B base G0 [] H0 ∧ jG dC dI ca base U ∧ G0 r0 = some (12, 0) ∧ jP (dC, dI) G0 H0 [(r0, 12, 3, .int tk), (r0, 12, 4, .int pa)] ∧ 0 ≤ tk.toInt ∧ tk.toInt ≤ 1500 ∧ 0 ≤ pa.toInt ∧ pa.toInt ≤ 1503 ∧ pa.toInt ≤ tk.toInt + 2)) (va_Qi (S := Int32) (fun r u => (r = 0 ∨ r = 1) ∧ (u.toInt = pa.toInt + 1 ∧ (r.toInt = 0 ∨ pa.toInt < tk.toInt))) (fun u t => jRt (dC, dI) B base G0 EX10_isArity H0 [(r0, 12, 4, .int u)] t.heap) (jA base)) 0 0 (jA base) := by
  refine Met.ofW (cc := cX10_isArity) (maxL := 1) (ret := (some .boolean)) (by decide) rfl ?_
  intro p e s m args below meth c s₁ Bd hml hv
  obtain ⟨rfl, hH0, hX, hG, hg_r0, hP0, hp0, hp1, hp2, hp3, hp4⟩ := hv
  have hK := hG.1
  have hx := Bd.exec
  have hb := Bd.bytes
  have hr := Bd.returns
  have hts := atoms_spec (ws := (jw yX10_isArity cX10_isArity 1 (some .boolean))) Bd.pre
  have htw : ∀ w ∈ jWl, w.before _ s = true := fun w h => hts w (List.mem_cons_of_mem _ h)
  have hown : s.vm.findClass RX10 = some m.cls := findClass_of_methodNamed Bd.named
  have hlocks := Bd.notSynchronized
  obtain ⟨Q, hQ⟩ : ∃ Q, Q = MQ below (va_Qi (S := Int32) (fun r u => (r = 0 ∨ r = 1) ∧ (u.toInt = pa.toInt + 1 ∧ (r.toInt = 0 ∨ pa.toInt < tk.toInt))) (fun u t => jRt (dC, dI) B base G0 EX10_isArity H0 [(r0, 12, 4, .int u)] t.heap) (jA base)) ([.ref r0] : List Value).toArray s 0 0 (jA base) := ⟨_, rfl⟩
  rw [← hQ]
  have hl := lv_entry ([.ref r0]) (n := 1) (Nat.le_of_ble_eq_true rfl)
  rw [lg_entry_eq]
  generalize (lg_sl ([.ref r0]) ++ List.replicate (1 - (lg_sl ([.ref r0])).length) Slot.unset).toArray = ls at hl ⊢
  have hl : lv_has ls 1 [(0, .ref r0)] := hl
  generalize hR : (headSpec (jw yX10_isArity cX10_isArity 1 (some .boolean)) ({ frames := 1, cells := 0, slots := 0, locals := 20 })).room = R
  subst hH0
  have hh : jSt (dC, dI) B base G0 G0 EX10_isArity s.heap 0 0 [(r0, 12, 3, .int tk), (r0, 12, 4, .int pa)] [] [] s.heap [] := jSt.start hX hP0 jMc.nil jIs.nil
  clear hX hP0
  have hkm1 : ((-1) : Int32).toInt = (-1) := by decide
  have hk0 : (0 : Int32).toInt = 0 := by decide
  have hk1 : (1 : Int32).toInt = 1 := by decide
  have hk3 : (3 : Int32).toInt = 3 := by decide
  have hk100 : (100 : Int32).toInt = 100 := by decide
  have hly_12_2 := htw (u_lay RX10 TX10 2) (jWc_wsX100 _ (u_in_lay (by decide)))
  have hly_12_4 := htw (u_lay RX10 TX10 4) (jWc_wsX100 _ (u_in_lay (by decide)))
  have hly_12_8 := htw (u_lay RX10 TX10 8) (jWc_wsX100 _ (u_in_lay (by decide)))
  have hlk_15 := (htw (.fieldLink RX10 15 "ProofServer$Syntax" "values" "[I") (jWr_8 _ (List.mem_of_getElem? (i := 9) rfl)))
  have hlk_83 := (htw (.fieldLink RX10 83 "ProofServer$Syntax" "at" "I") (jWr_79 _ (List.mem_of_getElem? (i := 5) rfl)))
  have hlk_92 := (htw (.fieldLink RX10 92 "ProofServer$Syntax" "terms" "I") (jWr_79 _ (List.mem_of_getElem? (i := 8) rfl)))
  refine lv_aload_n hx hb dX10_isArity_0 rfl (lv_at hl 0 rfl) ?_
  refine lv_aload_n hx hb dX10_isArity_1 rfl (lv_at hl 0 rfl) ?_
  refine va_calli (A0 := jA base) (H0 := s.heap) (va_runV (As := []) (rest := [.ref r0]) ⟨hx, hb, hml, hown, hts⟩ (uX10_peek l dC dI ca base B hB hAp hB12 hB101 G0 s.heap r0 tk pa) (cwV 0 hts (jgV (jWr_79 _ (List.mem_of_getElem? (i := 18) rfl)) (jWr_79 _ (List.mem_of_getElem? (i := 19) rfl)) (jWr_79 _ (List.mem_of_getElem? (i := 20) rfl)) (jWr_4 _ (List.mem_of_getElem? (i := 14) rfl)) (jWr_79 _ (List.mem_of_getElem? (i := 21) rfl))) rfl rfl rfl (by decide +kernel) ⟨by rw [← hR]; exact Nat.le_of_ble_eq_true rfl, by rw [← hR]; exact Nat.le_of_ble_eq_true rfl⟩) ⟨fun a U g mk q => by obtain ⟨q0, q1, q2, qK, q10, q11, q12⟩ := q; exact ⟨q0, q1, q2, jG.calling g mk a qK, q10, q11, q12⟩, hh.recv (C := RX10) (T := TX10) (N := 11) hB12 rfl (by decide) hg_r0 hK, fun U hU hW => ⟨rfl, hU, hh.2.1, hG.step hW hU hh.1, hg_r0, (hh.2.2.1.sub (L1 := [(r0, 12, 3, .int tk), (r0, 12, 4, .int pa)]) [0, 1] rfl), by first | omega | (refine ⟨?_, ?_, ?_, ?_⟩ <;> (first | omega | rfl | assumption | decide | exact Or.inl rfl | exact Or.inr rfl | (simp only; omega)))⟩⟩ rfl rfl hl.1 rfl (lv_room (Nat.le_of_ble_eq_true rfl)) dX10_isArity_2 ⟨Nat.zero_le _, Nat.zero_le _⟩) hh.1 (fun q _ h => h) (fun q h => h) (fun r_2 u_1 t_1 H_1 locs_1 ht_1 hvm_1 hr_2 hb_1 hz_1 hk_1 hS_1 => ?_)
  rw [ht_1] at hb_1
  obtain ⟨hb_11, hb_12, hb_13, hb_14, hb_15⟩ := hb_1
  have hh_1 : jSt (dC, dI) B base G0 G0 EX10_isArity s.heap 0 0 [(r0, 12, 3, .int tk), (r0, 12, 4, .int pa)] [] [] H_1 locs_1 := ((hh.call hb_11 hb_12 hb_13 hb_14 hS_1 rfl (L1 := [(r0, 12, 3, .int tk), (r0, 12, 4, .int pa)]) [0, 1] rfl rfl (M1 := []) [] rfl rfl (I1 := []) [] rfl rfl).more hb_15)
  clear hh ht_1 hvm_1 hz_1 hk_1 hS_1 hb_11 hb_12 hb_13 hb_14 hb_15
  refine lv_bipush (v := 100) hx hb dX10_isArity_5 (by decide) ?_
  refine lv_icmp_ne (tgt := 22) hx hb dX10_isArity_7 (by decide) (fun c_3 => ?_) (fun c_3 => ?_)
  · skip
    have c_3' : r_2.toInt ≠ 100 := jb_ne (rfl) ((by decide)) c_3
    try clear hr_2
    refine lv_iconst (v := (-1)) hx hb dX10_isArity_22 (by decide) ?_
    refine j7_put hx hb hown hK hh_1 hB hAp hB12 (C := RX10) (T := TX10) (N := 11) rfl (by decide) hg_r0 (i := 8) (by decide) hly_12_8 rfl hlk_92 rfl (ty := .int) (v := .int (-1)) (by decide +kernel) rfl rfl (⟨_, rfl⟩) rfl (L1 := [(r0, 12, 3, .int tk), (r0, 12, 4, .int pa)]) [0, 1] rfl rfl rfl dX10_isArity_23 (fun H_4 locs_4 hh_4 => ?_)
    clear hh_1
    refine lv_aload_n hx hb dX10_isArity_26 rfl (lv_at hl 0 rfl) ?_
    refine lv_dup hx hb dX10_isArity_27 rfl ?_
    refine j7_read hx hb hown hK (C := RX10) (T := TX10) (N := 11) rfl hly_12_4 hlk_83 (hh_4.at 2 rfl) dX10_isArity_28 ?_
    refine lv_iconst (v := 1) hx hb dX10_isArity_31 (by decide) ?_
    refine lv_iadd hx hb dX10_isArity_32 ?_
    refine lv_topi (fun z_5 ez_5 => ?_)
    have hz_5 : z_5.toInt = pa.toInt + 1 := by rw [ez_5]; exact jb_iadd2 (rfl) ((by decide)) (by omega)
    refine j7_put hx hb hown hK hh_4 hB hAp hB12 (C := RX10) (T := TX10) (N := 11) rfl (by decide) hg_r0 (i := 4) (by decide) hly_12_4 rfl hlk_83 rfl (ty := .int) (v := .int z_5) (by decide +kernel) rfl rfl (⟨_, rfl, by omega, by omega⟩) rfl (L1 := [(r0, 12, 8, .int (-1)), (r0, 12, 3, .int tk)]) [0, 1] rfl rfl rfl dX10_isArity_33 (fun H_6 locs_6 hh_6 => ?_)
    clear hh_4
    refine lv_aload_n hx hb dX10_isArity_36 rfl (lv_at hl 0 rfl) ?_
    refine j7_read hx hb hown hK (C := RX10) (T := TX10) (N := 11) rfl hly_12_8 hlk_92 (hh_6.at 1 rfl) dX10_isArity_37 ?_
    refine lv_if_lt (tgt := 55) hx hb dX10_isArity_40 (by decide) (fun c_7 => ?_) (fun c_7 => ?_)
    · skip
      refine lv_iconst (v := 0) hx hb dX10_isArity_55 (by decide) ?_
      rw [hQ]
      exact W.zret (v := 0) hx hb hr (jb_nz (Or.inl rfl)) (fun t ht hW => ⟨⟨0, z_5, rfl, ⟨(Or.inl rfl), by first | omega | (refine ⟨?_, ?_⟩ <;> (first | omega | rfl | assumption | decide | exact Or.inl rfl | exact Or.inr rfl | (simp only; omega)))⟩, hh_6.rt (M1 := [(r0, 12, 4, .int z_5)]) [0] rfl ht⟩, by rw [ht]; try exact hh_6.1.1, fun q h9 hq => by rw [ht]; try exact hh_6.1.2.1 q h9 hq⟩) hh_6.1.2.2 dX10_isArity_56
    · skip
      exact absurd c_7 (by decide)
  · skip
    have c_3' : r_2.toInt = 100 := jb_ne_n (rfl) ((by decide)) c_3
    first | (have hr_2q := hr_2.resolve_left (by omega); clear hr_2) | (have hr_2q := hr_2.resolve_right (by omega); clear hr_2) | try clear hr_2
    refine lv_aload_n hx hb dX10_isArity_10 rfl (lv_at hl 0 rfl) ?_
    obtain ⟨v_8, hv_8, hh_9⟩ := hh_1.pin (C := RX10) (T := TX10) (N := 11) hB12 rfl (by decide) hg_r0 (i := 2) (by decide) rfl
    clear hh_1
    obtain ⟨values_10, rfl, hg_values_10⟩ := hv_8
    refine j7_read hx hb hown hK (C := RX10) (T := TX10) (N := 11) rfl hly_12_2 hlk_15 (hh_9.at 0 rfl) dX10_isArity_11 ?_
    refine lv_aload_n hx hb dX10_isArity_14 rfl (lv_at hl 0 rfl) ?_
    refine j7_read hx hb hown hK (C := RX10) (T := TX10) (N := 11) rfl hly_12_4 hlk_83 (hh_9.at 2 rfl) dX10_isArity_15 ?_
    refine j7_iald hx hb hK hh_9 hB101 1 rfl (by decide) hg_values_10 (x := pa.toInt) (rfl) (by omega) dX10_isArity_18 (fun z_11 (hz_11 : True) => ?_)
    refine lv_goto (tgt := 23) hx hb dX10_isArity_19 (by decide) ?_
    refine j7_put hx hb hown hK hh_9 hB hAp hB12 (C := RX10) (T := TX10) (N := 11) rfl (by decide) hg_r0 (i := 8) (by decide) hly_12_8 rfl hlk_92 rfl (ty := .int) (v := .int z_11) (by decide +kernel) rfl rfl (⟨_, rfl⟩) rfl (L1 := [(r0, 12, 2, .ref values_10), (r0, 12, 3, .int tk), (r0, 12, 4, .int pa)]) [0, 1, 2] rfl rfl rfl dX10_isArity_23 (fun H_12 locs_12 hh_12 => ?_)
    clear hh_9
    refine lv_aload_n hx hb dX10_isArity_26 rfl (lv_at hl 0 rfl) ?_
    refine lv_dup hx hb dX10_isArity_27 rfl ?_
    refine j7_read hx hb hown hK (C := RX10) (T := TX10) (N := 11) rfl hly_12_4 hlk_83 (hh_12.at 3 rfl) dX10_isArity_28 ?_
    refine lv_iconst (v := 1) hx hb dX10_isArity_31 (by decide) ?_
    refine lv_iadd hx hb dX10_isArity_32 ?_
    refine lv_topi (fun z_13 ez_13 => ?_)
    have hz_13 : z_13.toInt = pa.toInt + 1 := by rw [ez_13]; exact jb_iadd2 (rfl) ((by decide)) (by omega)
    refine j7_put hx hb hown hK hh_12 hB hAp hB12 (C := RX10) (T := TX10) (N := 11) rfl (by decide) hg_r0 (i := 4) (by decide) hly_12_4 rfl hlk_83 rfl (ty := .int) (v := .int z_13) (by decide +kernel) rfl rfl (⟨_, rfl, by omega, by omega⟩) rfl (L1 := [(r0, 12, 8, .int z_11), (r0, 12, 2, .ref values_10), (r0, 12, 3, .int tk)]) [0, 1, 2] rfl rfl rfl dX10_isArity_33 (fun H_14 locs_14 hh_14 => ?_)
    clear hh_12
    refine lv_aload_n hx hb dX10_isArity_36 rfl (lv_at hl 0 rfl) ?_
    refine j7_read hx hb hown hK (C := RX10) (T := TX10) (N := 11) rfl hly_12_8 hlk_92 (hh_14.at 1 rfl) dX10_isArity_37 ?_
    refine lv_if_lt (tgt := 55) hx hb dX10_isArity_40 (by decide) (fun c_15 => ?_) (fun c_15 => ?_)
    · skip
      have c_15' : z_11.toInt < 0 := jb_lt (rfl) ((by decide)) c_15
      refine lv_iconst (v := 0) hx hb dX10_isArity_55 (by decide) ?_
      rw [hQ]
      exact W.zret (v := 0) hx hb hr (jb_nz (Or.inl rfl)) (fun t ht hW => ⟨⟨0, z_13, rfl, ⟨(Or.inl rfl), by first | omega | (refine ⟨?_, ?_⟩ <;> (first | omega | rfl | assumption | decide | exact Or.inl rfl | exact Or.inr rfl | (simp only; omega)))⟩, hh_14.rt (M1 := [(r0, 12, 4, .int z_13)]) [0] rfl ht⟩, by rw [ht]; try exact hh_14.1.1, fun q h9 hq => by rw [ht]; try exact hh_14.1.2.1 q h9 hq⟩) hh_14.1.2.2 dX10_isArity_56
    · skip
      have c_15' : z_11.toInt ≥ 0 := jb_lt_n (rfl) ((by decide)) c_15
      refine lv_aload_n hx hb dX10_isArity_43 rfl (lv_at hl 0 rfl) ?_
      refine j7_read hx hb hown hK (C := RX10) (T := TX10) (N := 11) rfl hly_12_8 hlk_92 (hh_14.at 1 rfl) dX10_isArity_44 ?_
      refine lv_iconst (v := 3) hx hb dX10_isArity_47 (by decide) ?_
      refine lv_icmp_gt (tgt := 55) hx hb dX10_isArity_48 (by decide) (fun c_16 => ?_) (fun c_16 => ?_)
      · skip
        have c_16' : z_11.toInt > 3 := jb_gt (rfl) ((by decide)) c_16
        refine lv_iconst (v := 0) hx hb dX10_isArity_55 (by decide) ?_
        rw [hQ]
        exact W.zret (v := 0) hx hb hr (jb_nz (Or.inl rfl)) (fun t ht hW => ⟨⟨0, z_13, rfl, ⟨(Or.inl rfl), by first | omega | (refine ⟨?_, ?_⟩ <;> (first | omega | rfl | assumption | decide | exact Or.inl rfl | exact Or.inr rfl | (simp only; omega)))⟩, hh_14.rt (M1 := [(r0, 12, 4, .int z_13)]) [0] rfl ht⟩, by rw [ht]; try exact hh_14.1.1, fun q h9 hq => by rw [ht]; try exact hh_14.1.2.1 q h9 hq⟩) hh_14.1.2.2 dX10_isArity_56
      · skip
        have c_16' : z_11.toInt ≤ 3 := jb_gt_n (rfl) ((by decide)) c_16
        refine lv_iconst (v := 1) hx hb dX10_isArity_51 (by decide) ?_
        refine lv_goto (tgt := 56) hx hb dX10_isArity_52 (by decide) ?_
        rw [hQ]
        exact W.zret (v := 1) hx hb hr (jb_nz (Or.inr rfl)) (fun t ht hW => ⟨⟨1, z_13, rfl, ⟨(Or.inr rfl), by first | omega | (refine ⟨?_, ?_⟩ <;> (first | omega | rfl | assumption | decide | exact Or.inl rfl | exact Or.inr rfl | (simp only; omega)))⟩, hh_14.rt (M1 := [(r0, 12, 4, .int z_13)]) [0] rfl ht⟩, by rw [ht]; try exact hh_14.1.1, fun q h9 hq => by rw [ht]; try exact hh_14.1.2.1 q h9 hq⟩) hh_14.1.2.2 dX10_isArity_56
set_option maxHeartbeats 4000000 in
set_option maxRecDepth 20000 in
theorem uX10_addNode (l : Launch) (dC : Nat → ClassId) (dI : Nat → Nat → Nat) (ca : Nat → ClassId) (base : Nat) (B : jF) (hB : jBok B) (hAp : jAp (dC, dI)) (hB12 : ∀ n G a H, B 12 n G a H ↔ jOb (dC, dI) 12 11 (F12 n G) a H) (hB101 : ∀ n G a H, B 101 n G a H ↔ jAr (dC, dI) (ca 1) (fun j z => True) n a H) (G0 : jT) (H0 : Heap) (r0 : Nat) (a1 : Int32) (nc : Int32) : Met l yX10_addNode (jw yX10_addNode cX10_addNode 2 (some .boolean)) ({ frames := 0, cells := 0, slots := 0, locals := 0 }) (va_Pc [.ref r0, .int a1] (fun U => U.heap = H0 ∧ jX B base G0 [] H0 ∧ jG dC dI ca base U ∧ G0 r0 = some (12, 0) ∧ jP (dC, dI) G0 H0 [(r0, 12, 10, .int nc)] ∧ 0 ≤ nc.toInt ∧ nc.toInt ≤ 3000)) (va_Qi (S := Int32) (fun r u => (r = 0 ∨ r = 1) ∧ (((r.toInt = 0 ∧ u.toInt = nc.toInt) ∨ u.toInt = nc.toInt + 1) ∧ u.toInt ≤ 3000)) (fun u t => jRt (dC, dI) B base G0 EX10_addNode H0 [(r0, 12, 10, .int u)] t.heap) (jA base)) 0 0 (jA base) := by
  refine Met.ofW (cc := cX10_addNode) (maxL := 2) (ret := (some .boolean)) (by decide) rfl ?_
  intro p e s m args below meth c s₁ Bd hml hv
  obtain ⟨rfl, hH0, hX, hG, hg_r0, hP0, hp0, hp1⟩ := hv
  have hK := hG.1
  have hx := Bd.exec
  have hb := Bd.bytes
  have hr := Bd.returns
  have hts := atoms_spec (ws := (jw yX10_addNode cX10_addNode 2 (some .boolean))) Bd.pre
  have htw : ∀ w ∈ jWl, w.before _ s = true := fun w h => hts w (List.mem_cons_of_mem _ h)
  have hown : s.vm.findClass RX10 = some m.cls := findClass_of_methodNamed Bd.named
  have hlocks := Bd.notSynchronized
  obtain ⟨Q, hQ⟩ : ∃ Q, Q = MQ below (va_Qi (S := Int32) (fun r u => (r = 0 ∨ r = 1) ∧ (((r.toInt = 0 ∧ u.toInt = nc.toInt) ∨ u.toInt = nc.toInt + 1) ∧ u.toInt ≤ 3000)) (fun u t => jRt (dC, dI) B base G0 EX10_addNode H0 [(r0, 12, 10, .int u)] t.heap) (jA base)) ([.ref r0, .int a1] : List Value).toArray s 0 0 (jA base) := ⟨_, rfl⟩
  rw [← hQ]
  have hl := lv_entry ([.ref r0, .int a1]) (n := 2) (Nat.le_of_ble_eq_true rfl)
  rw [lg_entry_eq]
  generalize (lg_sl ([.ref r0, .int a1]) ++ List.replicate (2 - (lg_sl ([.ref r0, .int a1])).length) Slot.unset).toArray = ls at hl ⊢
  have hl : lv_has ls 2 [(0, .ref r0), (1, .int a1)] := hl
  generalize hR : (headSpec (jw yX10_addNode cX10_addNode 2 (some .boolean)) ({ frames := 0, cells := 0, slots := 0, locals := 0 })).room = R
  subst hH0
  have hh : jSt (dC, dI) B base G0 G0 EX10_addNode s.heap 0 0 [(r0, 12, 10, .int nc)] [] [] s.heap [] := jSt.start hX hP0 jMc.nil jIs.nil
  clear hX hP0
  have hk0 : (0 : Int32).toInt = 0 := by decide
  have hk1 : (1 : Int32).toInt = 1 := by decide
  have hk3000 : (3000 : Int32).toInt = 3000 := by decide
  have hly_12_9 := htw (u_lay RX10 TX10 9) (jWc_wsX100 _ (u_in_lay (by decide)))
  have hly_12_10 := htw (u_lay RX10 TX10 10) (jWc_wsX100 _ (u_in_lay (by decide)))
  have hlk_89 := (htw (.fieldLink RX10 89 "ProofServer$Syntax" "nodeCount" "I") (jWr_79 _ (List.mem_of_getElem? (i := 7) rfl)))
  have hlk_21 := (htw (.fieldLink RX10 21 "ProofServer$Syntax" "nodes" "[I") (jWr_8 _ (List.mem_of_getElem? (i := 11) rfl)))
  have hrg_a1 := jb_rng a1
  refine lv_aload_n hx hb dX10_addNode_0 rfl (lv_at hl 0 rfl) ?_
  refine j7_read hx hb hown hK (C := RX10) (T := TX10) (N := 11) rfl hly_12_10 hlk_89 (hh.at 0 rfl) dX10_addNode_1 ?_
  refine lv_sipush (v := 3000) hx hb dX10_addNode_4 (by decide) ?_
  refine lv_icmp_lt (tgt := 12) hx hb dX10_addNode_7 (by decide) (fun c_1 => ?_) (fun c_1 => ?_)
  · skip
    have c_1' : nc.toInt < 3000 := jb_lt (rfl) ((by decide)) c_1
    refine lv_aload_n hx hb dX10_addNode_12 rfl (lv_at hl 0 rfl) ?_
    obtain ⟨v_2, hv_2, hh_3⟩ := hh.pin (C := RX10) (T := TX10) (N := 11) hB12 rfl (by decide) hg_r0 (i := 9) (by decide) rfl
    clear hh
    obtain ⟨nodes_4, rfl, hg_nodes_4⟩ := hv_2
    refine j7_read hx hb hown hK (C := RX10) (T := TX10) (N := 11) rfl hly_12_9 hlk_21 (hh_3.at 0 rfl) dX10_addNode_13 ?_
    refine lv_aload_n hx hb dX10_addNode_16 rfl (lv_at hl 0 rfl) ?_
    refine j7_read hx hb hown hK (C := RX10) (T := TX10) (N := 11) rfl hly_12_10 hlk_89 (hh_3.at 1 rfl) dX10_addNode_17 ?_
    refine lv_iload_n hx hb dX10_addNode_20 rfl (lv_at hl 1 rfl) ?_
    refine j7_iast hx hb hK hh_3 hB hB101 1 rfl (by decide) (by decide) rfl rfl rfl hg_nodes_4 (x := nc.toInt) (rfl) (by omega) (trivial) dX10_addNode_21 (fun H_5 locs_5 hh_5 => ?_)
    clear hh_3
    refine lv_aload_n hx hb dX10_addNode_22 rfl (lv_at hl 0 rfl) ?_
    refine lv_dup hx hb dX10_addNode_23 rfl ?_
    refine j7_read hx hb hown hK (C := RX10) (T := TX10) (N := 11) rfl hly_12_10 hlk_89 (hh_5.at 1 rfl) dX10_addNode_24 ?_
    refine lv_iconst (v := 1) hx hb dX10_addNode_27 (by decide) ?_
    refine lv_iadd hx hb dX10_addNode_28 ?_
    refine lv_topi (fun z_6 ez_6 => ?_)
    have hz_6 : z_6.toInt = nc.toInt + 1 := by rw [ez_6]; exact jb_iadd2 (rfl) ((by decide)) (by omega)
    refine j7_put hx hb hown hK hh_5 hB hAp hB12 (C := RX10) (T := TX10) (N := 11) rfl (by decide) hg_r0 (i := 10) (by decide) hly_12_10 rfl hlk_89 rfl (ty := .int) (v := .int z_6) (by decide +kernel) rfl rfl (⟨_, rfl, by omega, by omega⟩) rfl (L1 := [(r0, 12, 9, .ref nodes_4)]) [0] rfl rfl rfl dX10_addNode_29 (fun H_7 locs_7 hh_7 => ?_)
    clear hh_5
    refine lv_iconst (v := 1) hx hb dX10_addNode_32 (by decide) ?_
    rw [hQ]
    exact W.zret (v := 1) hx hb hr (jb_nz (Or.inr rfl)) (fun t ht hW => ⟨⟨1, z_6, rfl, ⟨(Or.inr rfl), by first | omega | (refine ⟨?_, ?_⟩ <;> (first | omega | rfl | assumption | decide | exact Or.inl rfl | exact Or.inr rfl | (simp only; omega)))⟩, hh_7.rt (M1 := [(r0, 12, 10, .int z_6)]) [0] rfl ht⟩, by rw [ht]; try exact hh_7.1.1, fun q h9 hq => by rw [ht]; try exact hh_7.1.2.1 q h9 hq⟩) hh_7.1.2.2 dX10_addNode_33
  · skip
    have c_1' : nc.toInt ≥ 3000 := jb_lt_n (rfl) ((by decide)) c_1
    refine lv_iconst (v := 0) hx hb dX10_addNode_10 (by decide) ?_
    rw [hQ]
    exact W.zret (v := 0) hx hb hr (jb_nz (Or.inl rfl)) (fun t ht hW => ⟨⟨0, nc, rfl, ⟨(Or.inl rfl), by first | omega | (refine ⟨?_, ?_⟩ <;> (first | omega | rfl | assumption | decide | exact Or.inl rfl | exact Or.inr rfl | (simp only; omega)))⟩, hh.rt (M1 := [(r0, 12, 10, .int nc)]) [0] rfl ht⟩, by rw [ht]; try exact hh.1.1, fun q h9 hq => by rw [ht]; try exact hh.1.2.1 q h9 hq⟩) hh.1.2.2 dX10_addNode_11
set_option maxHeartbeats 4000000 in
set_option maxRecDepth 20000 in
theorem uX10_insertNode (l : Launch) (dC : Nat → ClassId) (dI : Nat → Nat → Nat) (ca : Nat → ClassId) (base : Nat) (B : jF) (hB : jBok B) (hAp : jAp (dC, dI)) (hB12 : ∀ n G a H, B 12 n G a H ↔ jOb (dC, dI) 12 11 (F12 n G) a H) (hB101 : ∀ n G a H, B 101 n G a H ↔ jAr (dC, dI) (ca 1) (fun j z => True) n a H) (G0 : jT) (H0 : Heap) (r0 : Nat) (a1 : Int32) (a2 : Int32) (nc : Int32) : Met l yX10_insertNode (jw yX10_insertNode cX10_insertNode 4 (some .boolean)) ({ frames := 0, cells := 0, slots := 0, locals := 0 }) (va_Pc [.ref r0, .int a1, .int a2] (fun U => U.heap = H0 ∧ jX B base G0 [] H0 ∧ jG dC dI ca base U ∧ G0 r0 = some (12, 0) ∧ jP (dC, dI) G0 H0 [(r0, 12, 10, .int nc)] ∧ 0 ≤ nc.toInt ∧ nc.toInt ≤ 3000)) (va_Qi (S := Int32) (fun r u => (r = 0 ∨ r = 1) ∧ (((r.toInt = 0 ∧ u.toInt = nc.toInt) ∨ u.toInt = nc.toInt + 1) ∧ u.toInt ≤ 3000)) (fun u t => jRt (dC, dI) B base G0 EX10_insertNode H0 [(r0, 12, 10, .int u)] t.heap) (jA base)) 0 0 (jA base) := by
  refine Met.ofW (cc := cX10_insertNode) (maxL := 4) (ret := (some .boolean)) (by decide) rfl ?_
  intro p e s m args below meth c s₁ Bd hml hv
  obtain ⟨rfl, hH0, hX, hG, hg_r0, hP0, hp0, hp1⟩ := hv
  have hK := hG.1
  have hx := Bd.exec
  have hb := Bd.bytes
  have hr := Bd.returns
  have hts := atoms_spec (ws := (jw yX10_insertNode cX10_insertNode 4 (some .boolean))) Bd.pre
  have htw : ∀ w ∈ jWl, w.before _ s = true := fun w h => hts w (List.mem_cons_of_mem _ h)
  have hown : s.vm.findClass RX10 = some m.cls := findClass_of_methodNamed Bd.named
  have hlocks := Bd.notSynchronized
  obtain ⟨Q, hQ⟩ : ∃ Q, Q = MQ below (va_Qi (S := Int32) (fun r u => (r = 0 ∨ r = 1) ∧ (((r.toInt = 0 ∧ u.toInt = nc.toInt) ∨ u.toInt = nc.toInt + 1) ∧ u.toInt ≤ 3000)) (fun u t => jRt (dC, dI) B base G0 EX10_insertNode H0 [(r0, 12, 10, .int u)] t.heap) (jA base)) ([.ref r0, .int a1, .int a2] : List Value).toArray s 0 0 (jA base) := ⟨_, rfl⟩
  rw [← hQ]
  have hl := lv_entry ([.ref r0, .int a1, .int a2]) (n := 4) (Nat.le_of_ble_eq_true rfl)
  rw [lg_entry_eq]
  generalize (lg_sl ([.ref r0, .int a1, .int a2]) ++ List.replicate (4 - (lg_sl ([.ref r0, .int a1, .int a2])).length) Slot.unset).toArray = ls at hl ⊢
  have hl : lv_has ls 4 [(0, .ref r0), (1, .int a1), (2, .int a2)] := hl
  generalize hR : (headSpec (jw yX10_insertNode cX10_insertNode 4 (some .boolean)) ({ frames := 0, cells := 0, slots := 0, locals := 0 })).room = R
  subst hH0
  have hh : jSt (dC, dI) B base G0 G0 EX10_insertNode s.heap 0 0 [(r0, 12, 10, .int nc)] [] [] s.heap [] := jSt.start hX hP0 jMc.nil jIs.nil
  clear hX hP0
  have hk0 : (0 : Int32).toInt = 0 := by decide
  have hk1 : (1 : Int32).toInt = 1 := by decide
  have hk3000 : (3000 : Int32).toInt = 3000 := by decide
  have hly_12_9 := htw (u_lay RX10 TX10 9) (jWc_wsX100 _ (u_in_lay (by decide)))
  have hly_12_10 := htw (u_lay RX10 TX10 10) (jWc_wsX100 _ (u_in_lay (by decide)))
  have hlk_89 := (htw (.fieldLink RX10 89 "ProofServer$Syntax" "nodeCount" "I") (jWr_79 _ (List.mem_of_getElem? (i := 7) rfl)))
  have hlk_21 := (htw (.fieldLink RX10 21 "ProofServer$Syntax" "nodes" "[I") (jWr_8 _ (List.mem_of_getElem? (i := 11) rfl)))
  have hrg_a1 := jb_rng a1
  have hrg_a2 := jb_rng a2
  refine lv_iload_n hx hb dX10_insertNode_0 rfl (lv_at hl 1 rfl) ?_
  refine lv_if_lt (tgt := 22) hx hb dX10_insertNode_1 (by decide) (fun c_1 => ?_) (fun c_1 => ?_)
  · skip
    have c_1' : a1.toInt < 0 := jb_lt (rfl) ((by decide)) c_1
    refine lv_iconst (v := 0) hx hb dX10_insertNode_22 (by decide) ?_
    rw [hQ]
    exact W.zret (v := 0) hx hb hr (jb_nz (Or.inl rfl)) (fun t ht hW => ⟨⟨0, nc, rfl, ⟨(Or.inl rfl), by first | omega | (refine ⟨?_, ?_⟩ <;> (first | omega | rfl | assumption | decide | exact Or.inl rfl | exact Or.inr rfl | (simp only; omega)))⟩, hh.rt (M1 := [(r0, 12, 10, .int nc)]) [0] rfl ht⟩, by rw [ht]; try exact hh.1.1, fun q h9 hq => by rw [ht]; try exact hh.1.2.1 q h9 hq⟩) hh.1.2.2 dX10_insertNode_23
  · skip
    have c_1' : a1.toInt ≥ 0 := jb_lt_n (rfl) ((by decide)) c_1
    refine lv_iload_n hx hb dX10_insertNode_4 rfl (lv_at hl 1 rfl) ?_
    refine lv_aload_n hx hb dX10_insertNode_5 rfl (lv_at hl 0 rfl) ?_
    refine j7_read hx hb hown hK (C := RX10) (T := TX10) (N := 11) rfl hly_12_10 hlk_89 (hh.at 0 rfl) dX10_insertNode_6 ?_
    refine lv_icmp_gt (tgt := 22) hx hb dX10_insertNode_9 (by decide) (fun c_2 => ?_) (fun c_2 => ?_)
    · skip
      have c_2' : a1.toInt > nc.toInt := jb_gt (rfl) (rfl) c_2
      refine lv_iconst (v := 0) hx hb dX10_insertNode_22 (by decide) ?_
      rw [hQ]
      exact W.zret (v := 0) hx hb hr (jb_nz (Or.inl rfl)) (fun t ht hW => ⟨⟨0, nc, rfl, ⟨(Or.inl rfl), by first | omega | (refine ⟨?_, ?_⟩ <;> (first | omega | rfl | assumption | decide | exact Or.inl rfl | exact Or.inr rfl | (simp only; omega)))⟩, hh.rt (M1 := [(r0, 12, 10, .int nc)]) [0] rfl ht⟩, by rw [ht]; try exact hh.1.1, fun q h9 hq => by rw [ht]; try exact hh.1.2.1 q h9 hq⟩) hh.1.2.2 dX10_insertNode_23
    · skip
      have c_2' : a1.toInt ≤ nc.toInt := jb_gt_n (rfl) (rfl) c_2
      refine lv_aload_n hx hb dX10_insertNode_12 rfl (lv_at hl 0 rfl) ?_
      refine j7_read hx hb hown hK (C := RX10) (T := TX10) (N := 11) rfl hly_12_10 hlk_89 (hh.at 0 rfl) dX10_insertNode_13 ?_
      refine lv_sipush (v := 3000) hx hb dX10_insertNode_16 (by decide) ?_
      refine lv_icmp_lt (tgt := 24) hx hb dX10_insertNode_19 (by decide) (fun c_3 => ?_) (fun c_3 => ?_)
      · skip
        have c_3' : nc.toInt < 3000 := jb_lt (rfl) ((by decide)) c_3
        refine lv_aload_n hx hb dX10_insertNode_24 rfl (lv_at hl 0 rfl) ?_
        refine j7_read hx hb hown hK (C := RX10) (T := TX10) (N := 11) rfl hly_12_10 hlk_89 (hh.at 0 rfl) dX10_insertNode_25 ?_
        refine lv_istore_n (lv' := [(3, .int nc), (0, .ref r0), (1, .int a1), (2, .int a2)]) hx hb dX10_insertNode_28 rfl hl (by decide) rfl (fun ls hl => ?_)
        have L29 : ∀ (N : Nat) (v3_4 : Int32) (H_4 : Heap) (locs_4 : List Loc), jSt (dC, dI) B base G0 G0 EX10_insertNode s.heap 0 0 [(r0, 12, 10, .int nc)] [] [] H_4 locs_4 → (a1.toInt ≤ v3_4.toInt ∧ v3_4.toInt ≤ 2999) → (v3_4.toInt - a1.toInt : Int) < N → ∀ ls : Array Slot, lv_has ls 4 [(0, .ref r0), (1, .int a1), (2, .int a2), (3, .int v3_4)] → W p l e R s m ([.ref r0, .int a1, .int a2] : List Value).toArray below meth c H_4 locs_4 0 0 Q (F0 m 29 ls []) := by
          intro N
          induction N with
          | zero => intro v3_4 H_4 locs_4 hh_4  hi_4 hm; exact absurd hm (by omega)
          | succ N L29 =>
            intro v3_4 H_4 locs_4 hh_4  hi_4 hm_4 ls hl
            obtain ⟨hi_4_0, hi_4_1⟩ := hi_4
            refine lv_iload_n hx hb dX10_insertNode_29 rfl (lv_at hl 3 rfl) ?_
            refine lv_iload_n hx hb dX10_insertNode_30 rfl (lv_at hl 1 rfl) ?_
            refine lv_icmp_le (tgt := 54) hx hb dX10_insertNode_31 (by decide) (fun c_5 => ?_) (fun c_5 => ?_)
            · skip
              have c_5' : v3_4.toInt ≤ a1.toInt := jb_le (rfl) (rfl) c_5
              refine lv_aload_n hx hb dX10_insertNode_54 rfl (lv_at hl 0 rfl) ?_
              obtain ⟨v_6, hv_6, hh_7⟩ := hh_4.pin (C := RX10) (T := TX10) (N := 11) hB12 rfl (by decide) hg_r0 (i := 9) (by decide) rfl
              clear hh_4
              obtain ⟨nodes_8, rfl, hg_nodes_8⟩ := hv_6
              refine j7_read hx hb hown hK (C := RX10) (T := TX10) (N := 11) rfl hly_12_9 hlk_21 (hh_7.at 0 rfl) dX10_insertNode_55 ?_
              refine lv_iload_n hx hb dX10_insertNode_58 rfl (lv_at hl 1 rfl) ?_
              refine lv_iload_n hx hb dX10_insertNode_59 rfl (lv_at hl 2 rfl) ?_
              refine j7_iast hx hb hK hh_7 hB hB101 1 rfl (by decide) (by decide) rfl rfl rfl hg_nodes_8 (x := a1.toInt) (rfl) (by omega) (trivial) dX10_insertNode_60 (fun H_9 locs_9 hh_9 => ?_)
              clear hh_7
              refine lv_aload_n hx hb dX10_insertNode_61 rfl (lv_at hl 0 rfl) ?_
              refine lv_dup hx hb dX10_insertNode_62 rfl ?_
              refine j7_read hx hb hown hK (C := RX10) (T := TX10) (N := 11) rfl hly_12_10 hlk_89 (hh_9.at 1 rfl) dX10_insertNode_63 ?_
              refine lv_iconst (v := 1) hx hb dX10_insertNode_66 (by decide) ?_
              refine lv_iadd hx hb dX10_insertNode_67 ?_
              refine lv_topi (fun z_10 ez_10 => ?_)
              have hz_10 : z_10.toInt = nc.toInt + 1 := by rw [ez_10]; exact jb_iadd2 (rfl) ((by decide)) (by omega)
              refine j7_put hx hb hown hK hh_9 hB hAp hB12 (C := RX10) (T := TX10) (N := 11) rfl (by decide) hg_r0 (i := 10) (by decide) hly_12_10 rfl hlk_89 rfl (ty := .int) (v := .int z_10) (by decide +kernel) rfl rfl (⟨_, rfl, by omega, by omega⟩) rfl (L1 := [(r0, 12, 9, .ref nodes_8)]) [0] rfl rfl rfl dX10_insertNode_68 (fun H_11 locs_11 hh_11 => ?_)
              clear hh_9
              refine lv_iconst (v := 1) hx hb dX10_insertNode_71 (by decide) ?_
              rw [hQ]
              exact W.zret (v := 1) hx hb hr (jb_nz (Or.inr rfl)) (fun t ht hW => ⟨⟨1, z_10, rfl, ⟨(Or.inr rfl), by first | omega | (refine ⟨?_, ?_⟩ <;> (first | omega | rfl | assumption | decide | exact Or.inl rfl | exact Or.inr rfl | (simp only; omega)))⟩, hh_11.rt (M1 := [(r0, 12, 10, .int z_10)]) [0] rfl ht⟩, by rw [ht]; try exact hh_11.1.1, fun q h9 hq => by rw [ht]; try exact hh_11.1.2.1 q h9 hq⟩) hh_11.1.2.2 dX10_insertNode_72
            · skip
              have c_5' : v3_4.toInt > a1.toInt := jb_le_n (rfl) (rfl) c_5
              refine lv_aload_n hx hb dX10_insertNode_34 rfl (lv_at hl 0 rfl) ?_
              obtain ⟨v_12, hv_12, hh_13⟩ := hh_4.pin (C := RX10) (T := TX10) (N := 11) hB12 rfl (by decide) hg_r0 (i := 9) (by decide) rfl
              clear hh_4
              obtain ⟨nodes_14, rfl, hg_nodes_14⟩ := hv_12
              refine j7_read hx hb hown hK (C := RX10) (T := TX10) (N := 11) rfl hly_12_9 hlk_21 (hh_13.at 0 rfl) dX10_insertNode_35 ?_
              refine lv_iload_n hx hb dX10_insertNode_38 rfl (lv_at hl 3 rfl) ?_
              refine lv_aload_n hx hb dX10_insertNode_39 rfl (lv_at hl 0 rfl) ?_
              refine j7_read hx hb hown hK (C := RX10) (T := TX10) (N := 11) rfl hly_12_9 hlk_21 (hh_13.at 0 rfl) dX10_insertNode_40 ?_
              refine lv_iload_n hx hb dX10_insertNode_43 rfl (lv_at hl 3 rfl) ?_
              refine lv_iconst (v := 1) hx hb dX10_insertNode_44 (by decide) ?_
              refine lv_isub hx hb dX10_insertNode_45 ?_
              refine lv_topi (fun z_15 ez_15 => ?_)
              have hz_15 : z_15.toInt = v3_4.toInt - 1 := by rw [ez_15]; exact jb_isub2 (rfl) ((by decide)) (by omega)
              refine j7_iald hx hb hK hh_13 hB101 1 rfl (by decide) hg_nodes_14 (x := z_15.toInt) (rfl) (by omega) dX10_insertNode_46 (fun z_16 (hz_16 : True) => ?_)
              refine j7_iast hx hb hK hh_13 hB hB101 1 rfl (by decide) (by decide) rfl rfl rfl hg_nodes_14 (x := v3_4.toInt) (rfl) (by omega) (trivial) dX10_insertNode_47 (fun H_17 locs_17 hh_17 => ?_)
              clear hh_13
              obtain ⟨z_18, ez_18⟩ : ∃ y : Int32, y = v3_4 + (-1) := ⟨_, rfl⟩
              refine lv_iinc (v := z_18) (lv' := [(3, .int z_18), (0, .ref r0), (1, .int a1), (2, .int a2)]) hx hb dX10_insertNode_48 hl (k := 3) rfl (by rw [ez_18]; rfl) (by decide) rfl (fun ls hl => ?_)
              have hz_18 : z_18.toInt = v3_4.toInt + (-1) := by rw [ez_18]; exact jb_iadd2 (rfl) (by decide) (by omega)
              refine lv_goto (tgt := 29) hx hb dX10_insertNode_51 (by decide) ?_
              exact L29 z_18 _ _ (hh_17.sub (L1 := [(r0, 12, 10, .int nc)]) [1] rfl (M1 := []) [] rfl (I1 := []) [] rfl) (by first | omega | (refine ⟨?_, ?_⟩ <;> (first | omega | rfl | assumption | decide | exact Or.inl rfl | exact Or.inr rfl | (simp only; omega)))) (by omega) _ (lv_sub hl [1, 2, 3, 0] rfl)
        exact L29 ((nc : Int32).toInt - a1.toInt : Int).toNat.succ nc _ _ hh (by first | omega | (refine ⟨?_, ?_⟩ <;> (first | omega | rfl | assumption | decide | exact Or.inl rfl | exact Or.inr rfl | (simp only; omega)))) (by omega) _ (lv_sub hl [1, 2, 3, 0] rfl)
      · skip
        have c_3' : nc.toInt ≥ 3000 := jb_lt_n (rfl) ((by decide)) c_3
        refine lv_iconst (v := 0) hx hb dX10_insertNode_22 (by decide) ?_
        rw [hQ]
        exact W.zret (v := 0) hx hb hr (jb_nz (Or.inl rfl)) (fun t ht hW => ⟨⟨0, nc, rfl, ⟨(Or.inl rfl), by first | omega | (refine ⟨?_, ?_⟩ <;> (first | omega | rfl | assumption | decide | exact Or.inl rfl | exact Or.inr rfl | (simp only; omega)))⟩, hh.rt (M1 := [(r0, 12, 10, .int nc)]) [0] rfl ht⟩, by rw [ht]; try exact hh.1.1, fun q h9 hq => by rw [ht]; try exact hh.1.2.1 q h9 hq⟩) hh.1.2.2 dX10_insertNode_23
set_option maxHeartbeats 4000000 in
set_option maxRecDepth 20000 in
theorem uX10_add (l : Launch) (dC : Nat → ClassId) (dI : Nat → Nat → Nat) (ca : Nat → ClassId) (base : Nat) (B : jF) (hB : jBok B) (hAp : jAp (dC, dI)) (hB12 : ∀ n G a H, B 12 n G a H ↔ jOb (dC, dI) 12 11 (F12 n G) a H) (hB101 : ∀ n G a H, B 101 n G a H ↔ jAr (dC, dI) (ca 1) (fun j z => True) n a H) (G0 : jT) (H0 : Heap) (r0 : Nat) (a1 : Int32) (a2 : Int32) (tk : Int32) : Met l yX10_add (jw yX10_add cX10_add 3 none) ({ frames := 0, cells := 0, slots := 0, locals := 0 }) (va_Pc [.ref r0, .int a1, .int a2] (fun U => U.heap = H0 ∧ jX B base G0 [] H0 ∧ jG dC dI ca base U ∧ G0 r0 = some (12, 0) ∧ jP (dC, dI) G0 H0 [(r0, 12, 3, .int tk)] ∧ 0 ≤ tk.toInt ∧ tk.toInt ≤ 1500)) (va_Qv (S := Int32) (fun u => tk.toInt ≤ u.toInt ∧ u.toInt ≤ tk.toInt + 1 ∧ u.toInt ≤ 1500) (fun u t => jRt (dC, dI) B base G0 EX10_add H0 [(r0, 12, 3, .int u)] t.heap) (jA base)) 0 0 (jA base) := by
  refine Met.ofW (cc := cX10_add) (maxL := 3) (ret := none) (by decide) rfl ?_
  intro p e s m args below meth c s₁ Bd hml hv
  obtain ⟨rfl, hH0, hX, hG, hg_r0, hP0, hp0, hp1⟩ := hv
  have hK := hG.1
  have hx := Bd.exec
  have hb := Bd.bytes
  have hr := Bd.returns
  have hts := atoms_spec (ws := (jw yX10_add cX10_add 3 none)) Bd.pre
  have htw : ∀ w ∈ jWl, w.before _ s = true := fun w h => hts w (List.mem_cons_of_mem _ h)
  have hown : s.vm.findClass RX10 = some m.cls := findClass_of_methodNamed Bd.named
  have hlocks := Bd.notSynchronized
  obtain ⟨Q, hQ⟩ : ∃ Q, Q = MQ below (va_Qv (S := Int32) (fun u => tk.toInt ≤ u.toInt ∧ u.toInt ≤ tk.toInt + 1 ∧ u.toInt ≤ 1500) (fun u t => jRt (dC, dI) B base G0 EX10_add H0 [(r0, 12, 3, .int u)] t.heap) (jA base)) ([.ref r0, .int a1, .int a2] : List Value).toArray s 0 0 (jA base) := ⟨_, rfl⟩
  rw [← hQ]
  have hl := lv_entry ([.ref r0, .int a1, .int a2]) (n := 3) (Nat.le_of_ble_eq_true rfl)
  rw [lg_entry_eq]
  generalize (lg_sl ([.ref r0, .int a1, .int a2]) ++ List.replicate (3 - (lg_sl ([.ref r0, .int a1, .int a2])).length) Slot.unset).toArray = ls at hl ⊢
  have hl : lv_has ls 3 [(0, .ref r0), (1, .int a1), (2, .int a2)] := hl
  generalize hR : (headSpec (jw yX10_add cX10_add 3 none) ({ frames := 0, cells := 0, slots := 0, locals := 0 })).room = R
  subst hH0
  have hh : jSt (dC, dI) B base G0 G0 EX10_add s.heap 0 0 [(r0, 12, 3, .int tk)] [] [] s.heap [] := jSt.start hX hP0 jMc.nil jIs.nil
  clear hX hP0
  have hk0 : (0 : Int32).toInt = 0 := by decide
  have hk1 : (1 : Int32).toInt = 1 := by decide
  have hk1500 : (1500 : Int32).toInt = 1500 := by decide
  have hly_12_1 := htw (u_lay RX10 TX10 1) (jWc_wsX100 _ (u_in_lay (by decide)))
  have hly_12_2 := htw (u_lay RX10 TX10 2) (jWc_wsX100 _ (u_in_lay (by decide)))
  have hly_12_3 := htw (u_lay RX10 TX10 3) (jWc_wsX100 _ (u_in_lay (by decide)))
  have hlk_28 := (htw (.fieldLink RX10 28 "ProofServer$Syntax" "tokens" "I") (jWr_36 _ (List.mem_of_getElem? (i := 23) rfl)))
  have hlk_9 := (htw (.fieldLink RX10 9 "ProofServer$Syntax" "kinds" "[I") (jWr_8 _ (List.mem_of_getElem? (i := 8) rfl)))
  have hlk_15 := (htw (.fieldLink RX10 15 "ProofServer$Syntax" "values" "[I") (jWr_8 _ (List.mem_of_getElem? (i := 9) rfl)))
  have hrg_a1 := jb_rng a1
  have hrg_a2 := jb_rng a2
  refine lv_aload_n hx hb dX10_add_0 rfl (lv_at hl 0 rfl) ?_
  refine j7_read hx hb hown hK (C := RX10) (T := TX10) (N := 11) rfl hly_12_3 hlk_28 (hh.at 0 rfl) dX10_add_1 ?_
  refine lv_sipush (v := 1500) hx hb dX10_add_4 (by decide) ?_
  refine lv_icmp_ge (tgt := 40) hx hb dX10_add_7 (by decide) (fun c_1 => ?_) (fun c_1 => ?_)
  · skip
    have c_1' : tk.toInt ≥ 1500 := jb_ge (rfl) ((by decide)) c_1
    rw [hQ]
    exact W.vret hx hb hr (fun t ht hW => ⟨⟨tk, rfl, by first | omega | (refine ⟨?_, ?_, ?_⟩ <;> (first | omega | rfl | assumption | decide | exact Or.inl rfl | exact Or.inr rfl | (simp only; omega))), hh.rt (M1 := [(r0, 12, 3, .int tk)]) [0] rfl ht⟩, by rw [ht]; try exact hh.1.1, fun q h9 hq => by rw [ht]; try exact hh.1.2.1 q h9 hq⟩) hh.1.2.2 dX10_add_40
  · skip
    have c_1' : tk.toInt < 1500 := jb_ge_n (rfl) ((by decide)) c_1
    refine lv_aload_n hx hb dX10_add_10 rfl (lv_at hl 0 rfl) ?_
    obtain ⟨v_2, hv_2, hh_3⟩ := hh.pin (C := RX10) (T := TX10) (N := 11) hB12 rfl (by decide) hg_r0 (i := 1) (by decide) rfl
    clear hh
    obtain ⟨kinds_4, rfl, hg_kinds_4⟩ := hv_2
    refine j7_read hx hb hown hK (C := RX10) (T := TX10) (N := 11) rfl hly_12_1 hlk_9 (hh_3.at 0 rfl) dX10_add_11 ?_
    refine lv_aload_n hx hb dX10_add_14 rfl (lv_at hl 0 rfl) ?_
    refine j7_read hx hb hown hK (C := RX10) (T := TX10) (N := 11) rfl hly_12_3 hlk_28 (hh_3.at 1 rfl) dX10_add_15 ?_
    refine lv_iload_n hx hb dX10_add_18 rfl (lv_at hl 1 rfl) ?_
    refine j7_iast hx hb hK hh_3 hB hB101 1 rfl (by decide) (by decide) rfl rfl rfl hg_kinds_4 (x := tk.toInt) (rfl) (by omega) (trivial) dX10_add_19 (fun H_5 locs_5 hh_5 => ?_)
    clear hh_3
    refine lv_aload_n hx hb dX10_add_20 rfl (lv_at hl 0 rfl) ?_
    obtain ⟨v_6, hv_6, hh_7⟩ := hh_5.pin (C := RX10) (T := TX10) (N := 11) hB12 rfl (by decide) hg_r0 (i := 2) (by decide) rfl
    clear hh_5
    obtain ⟨values_8, rfl, hg_values_8⟩ := hv_6
    refine j7_read hx hb hown hK (C := RX10) (T := TX10) (N := 11) rfl hly_12_2 hlk_15 (hh_7.at 0 rfl) dX10_add_21 ?_
    refine lv_aload_n hx hb dX10_add_24 rfl (lv_at hl 0 rfl) ?_
    refine j7_read hx hb hown hK (C := RX10) (T := TX10) (N := 11) rfl hly_12_3 hlk_28 (hh_7.at 2 rfl) dX10_add_25 ?_
    refine lv_iload_n hx hb dX10_add_28 rfl (lv_at hl 2 rfl) ?_
    refine j7_iast hx hb hK hh_7 hB hB101 1 rfl (by decide) (by decide) rfl rfl rfl hg_values_8 (x := tk.toInt) (rfl) (by omega) (trivial) dX10_add_29 (fun H_9 locs_9 hh_9 => ?_)
    clear hh_7
    refine lv_aload_n hx hb dX10_add_30 rfl (lv_at hl 0 rfl) ?_
    refine lv_dup hx hb dX10_add_31 rfl ?_
    refine j7_read hx hb hown hK (C := RX10) (T := TX10) (N := 11) rfl hly_12_3 hlk_28 (hh_9.at 2 rfl) dX10_add_32 ?_
    refine lv_iconst (v := 1) hx hb dX10_add_35 (by decide) ?_
    refine lv_iadd hx hb dX10_add_36 ?_
    refine lv_topi (fun z_10 ez_10 => ?_)
    have hz_10 : z_10.toInt = tk.toInt + 1 := by rw [ez_10]; exact jb_iadd2 (rfl) ((by decide)) (by omega)
    refine j7_put hx hb hown hK hh_9 hB hAp hB12 (C := RX10) (T := TX10) (N := 11) rfl (by decide) hg_r0 (i := 3) (by decide) hly_12_3 rfl hlk_28 rfl (ty := .int) (v := .int z_10) (by decide +kernel) rfl rfl (⟨_, rfl, by omega, by omega⟩) rfl (L1 := [(r0, 12, 2, .ref values_8), (r0, 12, 1, .ref kinds_4)]) [0, 1] rfl rfl rfl dX10_add_37 (fun H_11 locs_11 hh_11 => ?_)
    clear hh_9
    rw [hQ]
    exact W.vret hx hb hr (fun t ht hW => ⟨⟨z_10, rfl, by first | omega | (refine ⟨?_, ?_, ?_⟩ <;> (first | omega | rfl | assumption | decide | exact Or.inl rfl | exact Or.inr rfl | (simp only; omega))), hh_11.rt (M1 := [(r0, 12, 3, .int z_10)]) [0] rfl ht⟩, by rw [ht]; try exact hh_11.1.1, fun q h9 hq => by rw [ht]; try exact hh_11.1.2.1 q h9 hq⟩) hh_11.1.2.2 dX10_add_40
set_option maxHeartbeats 4000000 in
set_option maxRecDepth 20000 in
theorem uX10_scanName (l : Launch) (dC : Nat → ClassId) (dI : Nat → Nat → Nat) (ca : Nat → ClassId) (base : Nat) (B : jF) (hB : jBok B) (hAp : jAp (dC, dI)) (hB8 : ∀ n G a H, B 8 n G a H ↔ jOb (dC, dI) 8 4 (F8 n G) a H) (hB12 : ∀ n G a H, B 12 n G a H ↔ jOb (dC, dI) 12 11 (F12 n G) a H) (hB101 : ∀ n G a H, B 101 n G a H ↔ jAr (dC, dI) (ca 1) (fun j z => True) n a H) (hB102 : ∀ n G a H, B 102 n G a H ↔ jAl (dC, dI) (ca 2) n a H) (hB132 : ∀ n G a H, B 132 n G a H ↔ jAr (dC, dI) (ca 1) (fun j z => 0 ≤ z.toInt ∧ z.toInt ≤ 10) n a H) (hB133 : ∀ n G a H, B 133 n G a H ↔ jAr (dC, dI) (ca 1) (fun j z => 0 ≤ z.toInt ∧ z.toInt ≤ 8192) n a H) (G0 : jT) (H0 : Heap) (r0 : Nat) (r1 : Nat) (a2 : Int32) (a3 : Int32) (n1 : Nat) : Met l yX10_scanName (jw yX10_scanName cX10_scanName 6 (some .int)) ({ frames := 2, cells := 0, slots := 0, locals := 57 }) (va_Pc [.ref r0, .ref r1, .int a2, .int a3] (fun U => U.heap = H0 ∧ jX B base G0 [] H0 ∧ jG dC dI ca base U ∧ G0 r1 = some (101, n1) ∧ G0 r0 = some (12, 0) ∧ jP (dC, dI) G0 H0 [] ∧ 0 ≤ a2.toInt ∧ a2.toInt < a3.toInt ∧ a3.toInt ≤ n1 ∧ n1 < 1000000)) (va_Qi (S := Unit) (fun r u => (a2.toInt < r.toInt ∧ r.toInt ≤ a3.toInt)) (fun u t => jRt (dC, dI) B base G0 EX10_scanName H0 [] t.heap) (jA base)) 0 0 (jA base) := by
  refine Met.ofW (cc := cX10_scanName) (maxL := 6) (ret := (some .int)) (by decide) rfl ?_
  intro p e s m args below meth c s₁ Bd hml hv
  obtain ⟨rfl, hH0, hX, hG, hg_r1, hg_r0, hP0, hp0, hp1, hp2, hp3⟩ := hv
  have hK := hG.1
  have hx := Bd.exec
  have hb := Bd.bytes
  have hr := Bd.returns
  have hts := atoms_spec (ws := (jw yX10_scanName cX10_scanName 6 (some .int))) Bd.pre
  have htw : ∀ w ∈ jWl, w.before _ s = true := fun w h => hts w (List.mem_cons_of_mem _ h)
  have hown : s.vm.findClass RX10 = some m.cls := findClass_of_methodNamed Bd.named
  have hlocks := Bd.notSynchronized
  obtain ⟨Q, hQ⟩ : ∃ Q, Q = MQ below (va_Qi (S := Unit) (fun r u => (a2.toInt < r.toInt ∧ r.toInt ≤ a3.toInt)) (fun u t => jRt (dC, dI) B base G0 EX10_scanName H0 [] t.heap) (jA base)) ([.ref r0, .ref r1, .int a2, .int a3] : List Value).toArray s 0 0 (jA base) := ⟨_, rfl⟩
  rw [← hQ]
  have hl := lv_entry ([.ref r0, .ref r1, .int a2, .int a3]) (n := 6) (Nat.le_of_ble_eq_true rfl)
  rw [lg_entry_eq]
  generalize (lg_sl ([.ref r0, .ref r1, .int a2, .int a3]) ++ List.replicate (6 - (lg_sl ([.ref r0, .ref r1, .int a2, .int a3])).length) Slot.unset).toArray = ls at hl ⊢
  have hl : lv_has ls 6 [(0, .ref r0), (1, .ref r1), (2, .int a2), (3, .int a3)] := hl
  generalize hR : (headSpec (jw yX10_scanName cX10_scanName 6 (some .int)) ({ frames := 2, cells := 0, slots := 0, locals := 57 })).room = R
  subst hH0
  have hh : jSt (dC, dI) B base G0 G0 EX10_scanName s.heap 0 0 [] [] [] s.heap [] := jSt.start hX hP0 jMc.nil jIs.nil
  clear hX hP0
  have hk0 : (0 : Int32).toInt = 0 := by decide
  have hk1 : (1 : Int32).toInt = 1 := by decide
  have hk10 : (10 : Int32).toInt = 10 := by decide
  have hk110 : (110 : Int32).toInt = 110 := by decide
  have hly_12_0 := htw (u_lay RX10 TX10 0) (jWc_wsX100 _ (u_in_lay (by decide)))
  have hlk_24 := (htw (.fieldLink RX10 24 "ProofServer$Syntax" "names" "LProofServer$Names;") (jWr_8 _ (List.mem_of_getElem? (i := 12) rfl)))
  have hrg_a2 := jb_rng a2
  have hrg_a3 := jb_rng a3
  refine lv_iload_n hx hb dX10_scanName_0 rfl (lv_at hl 2 rfl) ?_
  refine lv_iconst (v := 1) hx hb dX10_scanName_1 (by decide) ?_
  refine lv_iadd hx hb dX10_scanName_2 ?_
  refine lv_topi (fun z_1 ez_1 => ?_)
  have hz_1 : z_1.toInt = a2.toInt + 1 := by rw [ez_1]; exact jb_iadd2 (rfl) ((by decide)) (by omega)
  refine lv_istore (lv' := [(4, .int z_1), (0, .ref r0), (1, .ref r1), (2, .int a2), (3, .int a3)]) hx hb dX10_scanName_3 hl (by decide) rfl (fun ls hl => ?_)
  have L5 : ∀ (N : Nat) (v4_2 : Int32) (H_2 : Heap) (locs_2 : List Loc), jSt (dC, dI) B base G0 G0 EX10_scanName s.heap 0 0 [] [] [] H_2 locs_2 → (a2.toInt < v4_2.toInt ∧ v4_2.toInt ≤ a3.toInt) → (a3.toInt - v4_2.toInt : Int) < N → ∀ ls : Array Slot, lv_has ls 6 [(0, .ref r0), (1, .ref r1), (2, .int a2), (3, .int a3), (4, .int v4_2)] → W p l e R s m ([.ref r0, .ref r1, .int a2, .int a3] : List Value).toArray below meth c H_2 locs_2 0 0 Q (F0 m 5 ls []) := by
    intro N
    induction N with
    | zero => intro v4_2 H_2 locs_2 hh_2  hi_2 hm; exact absurd hm (by omega)
    | succ N L5 =>
      intro v4_2 H_2 locs_2 hh_2  hi_2 hm_2 ls hl
      obtain ⟨hi_2_0, hi_2_1⟩ := hi_2
      refine lv_iload hx hb dX10_scanName_5 (lv_at hl 4 rfl) ?_
      refine lv_iload_n hx hb dX10_scanName_7 rfl (lv_at hl 3 rfl) ?_
      refine lv_icmp_ge (tgt := 27) hx hb dX10_scanName_8 (by decide) (fun c_3 => ?_) (fun c_3 => ?_)
      · skip
        have c_3' : v4_2.toInt ≥ a3.toInt := jb_ge (rfl) (rfl) c_3
        refine lv_iload hx hb dX10_scanName_27 (lv_at hl 4 rfl) ?_
        refine lv_iload_n hx hb dX10_scanName_29 rfl (lv_at hl 2 rfl) ?_
        refine lv_isub hx hb dX10_scanName_30 ?_
        refine lv_topi (fun z_4 ez_4 => ?_)
        have hz_4 : z_4.toInt = v4_2.toInt - a2.toInt := by rw [ez_4]; exact jb_isub2 (rfl) (rfl) (by omega)
        refine lv_bipush (v := 10) hx hb dX10_scanName_31 (by decide) ?_
        refine lv_icmp_gt (tgt := 70) hx hb dX10_scanName_33 (by decide) (fun c_5 => ?_) (fun c_5 => ?_)
        · skip
          have c_5' : z_4.toInt > 10 := jb_gt (rfl) ((by decide)) c_5
          refine lv_iload_n hx hb dX10_scanName_70 rfl (lv_at hl 2 rfl) ?_
          refine lv_istore (lv' := [(5, .int a2), (0, .ref r0), (1, .ref r1), (2, .int a2), (3, .int a3), (4, .int v4_2)]) hx hb dX10_scanName_71 hl (by decide) rfl (fun ls hl => ?_)
          have L73 : ∀ (N : Nat) (v5_6 : Int32) (H_6 : Heap) (locs_6 : List Loc), jSt (dC, dI) B base G0 G0 EX10_scanName s.heap 0 0 [] [] [] H_6 locs_6 → (a2.toInt ≤ v5_6.toInt ∧ v5_6.toInt ≤ v4_2.toInt) → (v4_2.toInt - v5_6.toInt : Int) < N → ∀ ls : Array Slot, lv_has ls 6 [(0, .ref r0), (1, .ref r1), (2, .int a2), (3, .int a3), (4, .int v4_2), (5, .int v5_6)] → W p l e R s m ([.ref r0, .ref r1, .int a2, .int a3] : List Value).toArray below meth c H_6 locs_6 0 0 Q (F0 m 73 ls []) := by
            intro N
            induction N with
            | zero => intro v5_6 H_6 locs_6 hh_6  hi_6 hm; exact absurd hm (by omega)
            | succ N L73 =>
              intro v5_6 H_6 locs_6 hh_6  hi_6 hm_6 ls hl
              obtain ⟨hi_6_0, hi_6_1⟩ := hi_6
              refine lv_iload hx hb dX10_scanName_73 (lv_at hl 5 rfl) ?_
              refine lv_iload hx hb dX10_scanName_75 (lv_at hl 4 rfl) ?_
              refine lv_icmp_ge (tgt := 92) hx hb dX10_scanName_77 (by decide) (fun c_7 => ?_) (fun c_7 => ?_)
              · skip
                have c_7' : v5_6.toInt ≥ v4_2.toInt := jb_ge (rfl) (rfl) c_7
                refine lv_iload hx hb dX10_scanName_92 (lv_at hl 4 rfl) ?_
                rw [hQ]
                exact W.iret (v := v4_2) hx hb hr (fun t ht hW => ⟨⟨v4_2, (), rfl, by first | omega | (refine ⟨?_, ?_⟩ <;> (first | omega | rfl | assumption | decide | exact Or.inl rfl | exact Or.inr rfl | (simp only; omega))), hh_6.rt (M1 := []) [] rfl ht⟩, by rw [ht]; try exact hh_6.1.1, fun q h9 hq => by rw [ht]; try exact hh_6.1.2.1 q h9 hq⟩) hh_6.1.2.2 dX10_scanName_94
              · skip
                have c_7' : v5_6.toInt < v4_2.toInt := jb_ge_n (rfl) (rfl) c_7
                refine lv_aload_n hx hb dX10_scanName_80 rfl (lv_at hl 0 rfl) ?_
                refine lv_iconst (v := 0) hx hb dX10_scanName_81 (by decide) ?_
                refine lv_iconst (v := 0) hx hb dX10_scanName_82 (by decide) ?_
                obtain ⟨v_10, hv_10, hh_11⟩ := hh_6.pin (C := RX10) (T := TX10) (N := 11) hB12 rfl (by decide) hg_r0 (i := 3) (by decide) rfl
                obtain ⟨tokens_12, rfl, hlotokens_12, hhitokens_12⟩ := hv_10
                refine va_callv (A0 := jA base) (H0 := s.heap) (va_runV (As := [.int 0, .int 0]) (rest := []) ⟨hx, hb, hml, hown, hts⟩ (uX10_add l dC dI ca base B hB hAp hB12 hB101 G0 H_6 r0 0 0 tokens_12) (cwV 2 hts (jgV (jWr_37 _ (List.mem_of_getElem? (i := 7) rfl)) (jWr_37 _ (List.mem_of_getElem? (i := 8) rfl)) (jWr_37 _ (List.mem_of_getElem? (i := 9) rfl)) (jWr_4 _ (List.mem_of_getElem? (i := 14) rfl)) (jWr_37 _ (List.mem_of_getElem? (i := 10) rfl))) rfl rfl rfl (by decide +kernel) ⟨by rw [← hR]; exact Nat.le_of_ble_eq_true rfl, by rw [← hR]; exact Nat.le_of_ble_eq_true rfl⟩) ⟨fun a U g mk q => by obtain ⟨q0, q1, q2, qK, q10, q11, q12⟩ := q; exact ⟨q0, q1, q2, jG.calling g mk a qK, q10, q11, q12⟩, hh_11.recv (C := RX10) (T := TX10) (N := 11) hB12 rfl (by decide) hg_r0 hK, fun U hU hW => ⟨rfl, hU, hh_11.2.1, hG.step hW hU hh_11.1, hg_r0, (hh_11.2.2.1.sub (L1 := [(r0, 12, 3, .int tokens_12)]) [0] rfl), by first | omega | (refine ⟨?_, ?_⟩ <;> (first | omega | rfl | assumption | decide | exact Or.inl rfl | exact Or.inr rfl | (simp only; omega)))⟩⟩ rfl rfl hl.1 rfl (lv_room (Nat.le_of_ble_eq_true rfl)) dX10_scanName_83 ⟨Nat.zero_le _, Nat.zero_le _⟩) hh_11.1 (fun q _ h => h) (fun q h => h) (fun u_8 t_8 H_8 locs_8 ht_8 hvm_8 hr_9 hb_8 hz_8 hk_8 hS_8 => ?_)
                obtain ⟨qk_8, rfl⟩ : ∃ z, z = u_8 := ⟨_, rfl⟩
                rw [ht_8] at hb_8
                obtain ⟨hb_81, hb_82, hb_83, hb_84, hb_85⟩ := hb_8
                have hh_8 : jSt (dC, dI) B base G0 G0 EX10_scanName s.heap 0 0 [(r0, 12, 3, .int qk_8)] [] [] H_8 locs_8 := ((hh_11.call hb_81 hb_82 hb_83 hb_84 hS_8 rfl (L1 := []) [] rfl rfl (M1 := []) [] rfl rfl (I1 := []) [] rfl rfl).more hb_85)
                clear hh_11 ht_8 hvm_8 hz_8 hk_8 hS_8 hb_81 hb_82 hb_83 hb_84 hb_85
                obtain ⟨hr_9_0, hr_9_1, hr_9_2⟩ := hr_9
                obtain ⟨z_13, ez_13⟩ : ∃ y : Int32, y = v5_6 + 1 := ⟨_, rfl⟩
                refine lv_iinc (v := z_13) (lv' := [(5, .int z_13), (0, .ref r0), (1, .ref r1), (2, .int a2), (3, .int a3), (4, .int v4_2)]) hx hb dX10_scanName_86 hl (k := 5) rfl (by rw [ez_13]; rfl) (by decide) rfl (fun ls hl => ?_)
                have hz_13 : z_13.toInt = v5_6.toInt + 1 := by rw [ez_13]; exact jb_iadd2 (rfl) (by decide) (by omega)
                refine lv_goto (tgt := 73) hx hb dX10_scanName_89 (by decide) ?_
                exact L73 z_13 _ _ (hh_8.sub (L1 := []) [] rfl (M1 := []) [] rfl (I1 := []) [] rfl) (by first | omega | (refine ⟨?_, ?_⟩ <;> (first | omega | rfl | assumption | decide | exact Or.inl rfl | exact Or.inr rfl | (simp only; omega)))) (by omega) _ (lv_sub hl [1, 2, 3, 4, 5, 0] rfl)
          exact L73 (v4_2.toInt - (a2 : Int32).toInt : Int).toNat.succ a2 _ _ hh_2 (by first | omega | (refine ⟨?_, ?_⟩ <;> (first | omega | rfl | assumption | decide | exact Or.inl rfl | exact Or.inr rfl | (simp only; omega)))) (by omega) _ (lv_sub hl [1, 2, 3, 4, 5, 0] rfl)
        · skip
          have c_5' : z_4.toInt ≤ 10 := jb_gt_n (rfl) ((by decide)) c_5
          refine lv_aload_n hx hb dX10_scanName_36 rfl (lv_at hl 0 rfl) ?_
          obtain ⟨v_14, hv_14, hh_15⟩ := hh_2.pin (C := RX10) (T := TX10) (N := 11) hB12 rfl (by decide) hg_r0 (i := 0) (by decide) rfl
          clear hh_2
          obtain ⟨names_16, rfl, hg_names_16⟩ := hv_14
          refine j7_read hx hb hown hK (C := RX10) (T := TX10) (N := 11) rfl hly_12_0 hlk_24 (hh_15.at 0 rfl) dX10_scanName_37 ?_
          refine lv_aload_n hx hb dX10_scanName_40 rfl (lv_at hl 1 rfl) ?_
          refine lv_iload_n hx hb dX10_scanName_41 rfl (lv_at hl 2 rfl) ?_
          refine lv_iload hx hb dX10_scanName_42 (lv_at hl 4 rfl) ?_
          refine lv_iconst (v := 1) hx hb dX10_scanName_44 (by decide) ?_
          refine va_calli (A0 := jA base) (H0 := s.heap) (va_runV (As := [.ref r1, .int a2, .int v4_2, .int 1]) (rest := []) ⟨hx, hb, hml, hown, hts⟩ (uX6_numberOf l dC dI ca base B hB hAp hB8 hB101 hB102 hB132 hB133 G0 H_2 names_16 r1 a2 v4_2 1 n1) (cwV 4 hts (jgV (jWr_37 _ (List.mem_of_getElem? (i := 6) rfl)) (jWr_7 _ (List.mem_of_getElem? (i := 14) rfl)) (jWr_7 _ (List.mem_of_getElem? (i := 15) rfl)) (jWr_4 _ (List.mem_of_getElem? (i := 10) rfl)) (jWr_7 _ (List.mem_of_getElem? (i := 16) rfl))) rfl rfl rfl (by decide +kernel) ⟨by rw [← hR]; exact Nat.le_of_ble_eq_true rfl, by rw [← hR]; exact Nat.le_of_ble_eq_true rfl⟩) ⟨fun a U g mk q => by obtain ⟨q0, q1, q2, qK, q10, q11, q12, q13⟩ := q; exact ⟨q0, q1, q2, jG.calling g mk a qK, q10, q11, q12, q13⟩, hh_15.recv (C := RX6) (T := TX6) (N := 4) hB8 rfl (by decide) hg_names_16 hK, fun U hU hW => ⟨rfl, hU, hh_15.2.1, hG.step hW hU hh_15.1, hg_r1, hg_names_16, jP.nil, by first | omega | rfl | assumption | decide | exact Or.inl rfl | exact Or.inr rfl | (simp only; omega)⟩⟩ rfl rfl hl.1 rfl (lv_room (Nat.le_of_ble_eq_true rfl)) dX10_scanName_45 ⟨Nat.zero_le _, Nat.zero_le _⟩) hh_15.1 (fun q _ h => h) (fun q h => h) (fun r_18 u_17 t_17 H_17 locs_17 ht_17 hvm_17 hr_18 hb_17 hz_17 hk_17 hS_17 => ?_)
          rw [ht_17] at hb_17
          obtain ⟨hb_171, hb_172, hb_173, hb_174, hb_175⟩ := hb_17
          have hh_17 : jSt (dC, dI) B base G0 G0 EX10_scanName s.heap 0 0 [(r0, 12, 0, .ref names_16)] [] [] H_17 locs_17 := ((hh_15.call hb_171 hb_172 hb_173 hb_174 hS_17 rfl (L1 := [(r0, 12, 0, .ref names_16)]) [0] rfl rfl (M1 := []) [] rfl rfl (I1 := []) [] rfl rfl).more hb_175)
          clear hh_15 ht_17 hvm_17 hz_17 hk_17 hS_17 hb_171 hb_172 hb_173 hb_174 hb_175
          obtain ⟨hr_18_0, hr_18_1⟩ := hr_18
          refine lv_istore (lv' := [(5, .int r_18), (0, .ref r0), (1, .ref r1), (2, .int a2), (3, .int a3), (4, .int v4_2)]) hx hb dX10_scanName_48 hl (by decide) rfl (fun ls hl => ?_)
          refine lv_aload_n hx hb dX10_scanName_50 rfl (lv_at hl 1 rfl) ?_
          refine lv_iload hx hb dX10_scanName_51 (lv_at hl 0 rfl) ?_
          refine lv_if_ge (tgt := 60) hx hb dX10_scanName_53 (by decide) (fun c_19 => ?_) (fun c_19 => ?_)
          · skip
            have c_19' : r_18.toInt ≥ 0 := jb_ge (rfl) ((by decide)) c_19
            refine lv_bipush (v := 110) hx hb dX10_scanName_60 (by decide) ?_
            refine lv_iload hx hb dX10_scanName_62 (lv_at hl 0 rfl) ?_
            obtain ⟨v_22, hv_22, hh_23⟩ := hh_17.pin (C := RX10) (T := TX10) (N := 11) hB12 rfl (by decide) hg_r0 (i := 3) (by decide) rfl
            obtain ⟨tokens_24, rfl, hlotokens_24, hhitokens_24⟩ := hv_22
            refine va_callv (A0 := jA base) (H0 := s.heap) (va_runV (As := [.int 110, .int r_18]) (rest := []) ⟨hx, hb, hml, hown, hts⟩ (uX10_add l dC dI ca base B hB hAp hB12 hB101 G0 H_17 r0 110 r_18 tokens_24) (cwV 2 hts (jgV (jWr_37 _ (List.mem_of_getElem? (i := 7) rfl)) (jWr_37 _ (List.mem_of_getElem? (i := 8) rfl)) (jWr_37 _ (List.mem_of_getElem? (i := 9) rfl)) (jWr_4 _ (List.mem_of_getElem? (i := 14) rfl)) (jWr_37 _ (List.mem_of_getElem? (i := 10) rfl))) rfl rfl rfl (by decide +kernel) ⟨by rw [← hR]; exact Nat.le_of_ble_eq_true rfl, by rw [← hR]; exact Nat.le_of_ble_eq_true rfl⟩) ⟨fun a U g mk q => by obtain ⟨q0, q1, q2, qK, q10, q11, q12⟩ := q; exact ⟨q0, q1, q2, jG.calling g mk a qK, q10, q11, q12⟩, hh_23.recv (C := RX10) (T := TX10) (N := 11) hB12 rfl (by decide) hg_r0 hK, fun U hU hW => ⟨rfl, hU, hh_23.2.1, hG.step hW hU hh_23.1, hg_r0, (hh_23.2.2.1.sub (L1 := [(r0, 12, 3, .int tokens_24)]) [0] rfl), by first | omega | (refine ⟨?_, ?_⟩ <;> (first | omega | rfl | assumption | decide | exact Or.inl rfl | exact Or.inr rfl | (simp only; omega)))⟩⟩ rfl rfl hl.1 rfl (lv_room (Nat.le_of_ble_eq_true rfl)) dX10_scanName_64 ⟨Nat.zero_le _, Nat.zero_le _⟩) hh_23.1 (fun q _ h => h) (fun q h => h) (fun u_20 t_20 H_20 locs_20 ht_20 hvm_20 hr_21 hb_20 hz_20 hk_20 hS_20 => ?_)
            obtain ⟨qk_20, rfl⟩ : ∃ z, z = u_20 := ⟨_, rfl⟩
            rw [ht_20] at hb_20
            obtain ⟨hb_201, hb_202, hb_203, hb_204, hb_205⟩ := hb_20
            have hh_20 : jSt (dC, dI) B base G0 G0 EX10_scanName s.heap 0 0 [(r0, 12, 3, .int qk_20), (r0, 12, 0, .ref names_16)] [] [] H_20 locs_20 := ((hh_23.call hb_201 hb_202 hb_203 hb_204 hS_20 rfl (L1 := [(r0, 12, 0, .ref names_16)]) [1] rfl rfl (M1 := []) [] rfl rfl (I1 := []) [] rfl rfl).more hb_205)
            clear hh_23 ht_20 hvm_20 hz_20 hk_20 hS_20 hb_201 hb_202 hb_203 hb_204 hb_205
            obtain ⟨hr_21_0, hr_21_1, hr_21_2⟩ := hr_21
            refine lv_goto (tgt := 92) hx hb dX10_scanName_67 (by decide) ?_
            refine lv_iload hx hb dX10_scanName_92 (lv_at hl 5 rfl) ?_
            rw [hQ]
            exact W.iret (v := v4_2) hx hb hr (fun t ht hW => ⟨⟨v4_2, (), rfl, by first | omega | (refine ⟨?_, ?_⟩ <;> (first | omega | rfl | assumption | decide | exact Or.inl rfl | exact Or.inr rfl | (simp only; omega))), hh_20.rt (M1 := []) [] rfl ht⟩, by rw [ht]; try exact hh_20.1.1, fun q h9 hq => by rw [ht]; try exact hh_20.1.2.1 q h9 hq⟩) hh_20.1.2.2 dX10_scanName_94
          · skip
            have c_19' : r_18.toInt < 0 := jb_ge_n (rfl) ((by decide)) c_19
            refine lv_iconst (v := 0) hx hb dX10_scanName_56 (by decide) ?_
            refine lv_goto (tgt := 62) hx hb dX10_scanName_57 (by decide) ?_
            refine lv_iload hx hb dX10_scanName_62 (lv_at hl 0 rfl) ?_
            obtain ⟨v_27, hv_27, hh_28⟩ := hh_17.pin (C := RX10) (T := TX10) (N := 11) hB12 rfl (by decide) hg_r0 (i := 3) (by decide) rfl
            obtain ⟨tokens_29, rfl, hlotokens_29, hhitokens_29⟩ := hv_27
            refine va_callv (A0 := jA base) (H0 := s.heap) (va_runV (As := [.int 0, .int r_18]) (rest := []) ⟨hx, hb, hml, hown, hts⟩ (uX10_add l dC dI ca base B hB hAp hB12 hB101 G0 H_17 r0 0 r_18 tokens_29) (cwV 2 hts (jgV (jWr_37 _ (List.mem_of_getElem? (i := 7) rfl)) (jWr_37 _ (List.mem_of_getElem? (i := 8) rfl)) (jWr_37 _ (List.mem_of_getElem? (i := 9) rfl)) (jWr_4 _ (List.mem_of_getElem? (i := 14) rfl)) (jWr_37 _ (List.mem_of_getElem? (i := 10) rfl))) rfl rfl rfl (by decide +kernel) ⟨by rw [← hR]; exact Nat.le_of_ble_eq_true rfl, by rw [← hR]; exact Nat.le_of_ble_eq_true rfl⟩) ⟨fun a U g mk q => by obtain ⟨q0, q1, q2, qK, q10, q11, q12⟩ := q; exact ⟨q0, q1, q2, jG.calling g mk a qK, q10, q11, q12⟩, hh_28.recv (C := RX10) (T := TX10) (N := 11) hB12 rfl (by decide) hg_r0 hK, fun U hU hW => ⟨rfl, hU, hh_28.2.1, hG.step hW hU hh_28.1, hg_r0, (hh_28.2.2.1.sub (L1 := [(r0, 12, 3, .int tokens_29)]) [0] rfl), by first | omega | (refine ⟨?_, ?_⟩ <;> (first | omega | rfl | assumption | decide | exact Or.inl rfl | exact Or.inr rfl | (simp only; omega)))⟩⟩ rfl rfl hl.1 rfl (lv_room (Nat.le_of_ble_eq_true rfl)) dX10_scanName_64 ⟨Nat.zero_le _, Nat.zero_le _⟩) hh_28.1 (fun q _ h => h) (fun q h => h) (fun u_25 t_25 H_25 locs_25 ht_25 hvm_25 hr_26 hb_25 hz_25 hk_25 hS_25 => ?_)
            obtain ⟨qk_25, rfl⟩ : ∃ z, z = u_25 := ⟨_, rfl⟩
            rw [ht_25] at hb_25
            obtain ⟨hb_251, hb_252, hb_253, hb_254, hb_255⟩ := hb_25
            have hh_25 : jSt (dC, dI) B base G0 G0 EX10_scanName s.heap 0 0 [(r0, 12, 3, .int qk_25), (r0, 12, 0, .ref names_16)] [] [] H_25 locs_25 := ((hh_28.call hb_251 hb_252 hb_253 hb_254 hS_25 rfl (L1 := [(r0, 12, 0, .ref names_16)]) [1] rfl rfl (M1 := []) [] rfl rfl (I1 := []) [] rfl rfl).more hb_255)
            clear hh_28 ht_25 hvm_25 hz_25 hk_25 hS_25 hb_251 hb_252 hb_253 hb_254 hb_255
            obtain ⟨hr_26_0, hr_26_1, hr_26_2⟩ := hr_26
            refine lv_goto (tgt := 92) hx hb dX10_scanName_67 (by decide) ?_
            refine lv_iload hx hb dX10_scanName_92 (lv_at hl 5 rfl) ?_
            rw [hQ]
            exact W.iret (v := v4_2) hx hb hr (fun t ht hW => ⟨⟨v4_2, (), rfl, by first | omega | (refine ⟨?_, ?_⟩ <;> (first | omega | rfl | assumption | decide | exact Or.inl rfl | exact Or.inr rfl | (simp only; omega))), hh_25.rt (M1 := []) [] rfl ht⟩, by rw [ht]; try exact hh_25.1.1, fun q h9 hq => by rw [ht]; try exact hh_25.1.2.1 q h9 hq⟩) hh_25.1.2.2 dX10_scanName_94
      · skip
        have c_3' : v4_2.toInt < a3.toInt := jb_ge_n (rfl) (rfl) c_3
        refine lv_aload_n hx hb dX10_scanName_11 rfl (lv_at hl 1 rfl) ?_
        refine lv_iload hx hb dX10_scanName_12 (lv_at hl 4 rfl) ?_
        refine j7_iald hx hb hK hh_2 hB101 1 rfl (by decide) hg_r1 (x := v4_2.toInt) (rfl) (by omega) dX10_scanName_14 (fun z_30 (hz_30 : True) => ?_)
        refine vp_callSi (va_Run.run (va_runSN (As := [.int z_30]) (rest := []) ⟨hx, hb, hml, hown, hts⟩ (wX6_signOf l dC dI ca base H_2 z_30) ⟨va_cnB 1 hts (jgW (jWr_7 _ (List.mem_of_getElem? (i := 21) rfl))) rfl rfl rfl (hG.2.2.1 RX10 74 yX6_signOf "ProofServer" (List.mem_of_getElem? (i := 1144) (by decide +kernel))) (htw (.initialized RX6) (jWr_4 _ (List.mem_of_getElem? (i := 10) rfl))) (by decide +kernel) ⟨by rw [← hR]; exact Nat.le_of_ble_eq_true rfl, by rw [← hR]; exact Nat.le_of_ble_eq_true rfl⟩, htw (.static yX6_signOf) (jWr_7 _ (List.mem_of_getElem? (i := 20) rfl)), trivial⟩ ⟨fun a U g mk q => by obtain ⟨q0, q1, qK, q9⟩ := q; exact ⟨q0, q1, jG.calling g mk a qK, q9⟩, fun U hU hW => ⟨rfl, hU, hG.step hW hU hh_2.1, by first | trivial | omega | (constructor <;> omega)⟩⟩ rfl rfl hl.1 rfl (lv_room (Nat.le_of_ble_eq_true rfl)) dX10_scanName_15 ⟨Nat.zero_le _, Nat.zero_le _⟩)) (fun r_31 hr_31 => ?_)
        refine lv_if_lt (tgt := 27) hx hb dX10_scanName_18 (by decide) (fun c_32 => ?_) (fun c_32 => ?_)
        · skip
          have c_32' : r_31.toInt < 0 := jb_lt (rfl) ((by decide)) c_32
          refine lv_iload hx hb dX10_scanName_27 (lv_at hl 4 rfl) ?_
          refine lv_iload_n hx hb dX10_scanName_29 rfl (lv_at hl 2 rfl) ?_
          refine lv_isub hx hb dX10_scanName_30 ?_
          refine lv_topi (fun z_33 ez_33 => ?_)
          have hz_33 : z_33.toInt = v4_2.toInt - a2.toInt := by rw [ez_33]; exact jb_isub2 (rfl) (rfl) (by omega)
          refine lv_bipush (v := 10) hx hb dX10_scanName_31 (by decide) ?_
          refine lv_icmp_gt (tgt := 70) hx hb dX10_scanName_33 (by decide) (fun c_34 => ?_) (fun c_34 => ?_)
          · skip
            have c_34' : z_33.toInt > 10 := jb_gt (rfl) ((by decide)) c_34
            refine lv_iload_n hx hb dX10_scanName_70 rfl (lv_at hl 2 rfl) ?_
            refine lv_istore (lv' := [(5, .int a2), (0, .ref r0), (1, .ref r1), (2, .int a2), (3, .int a3), (4, .int v4_2)]) hx hb dX10_scanName_71 hl (by decide) rfl (fun ls hl => ?_)
            have L73 : ∀ (N : Nat) (v5_35 : Int32) (H_35 : Heap) (locs_35 : List Loc), jSt (dC, dI) B base G0 G0 EX10_scanName s.heap 0 0 [] [] [] H_35 locs_35 → (a2.toInt ≤ v5_35.toInt ∧ v5_35.toInt ≤ v4_2.toInt) → (v4_2.toInt - v5_35.toInt : Int) < N → ∀ ls : Array Slot, lv_has ls 6 [(0, .ref r0), (1, .ref r1), (2, .int a2), (3, .int a3), (4, .int v4_2), (5, .int v5_35)] → W p l e R s m ([.ref r0, .ref r1, .int a2, .int a3] : List Value).toArray below meth c H_35 locs_35 0 0 Q (F0 m 73 ls []) := by
              intro N
              induction N with
              | zero => intro v5_35 H_35 locs_35 hh_35  hi_35 hm; exact absurd hm (by omega)
              | succ N L73 =>
                intro v5_35 H_35 locs_35 hh_35  hi_35 hm_35 ls hl
                obtain ⟨hi_35_0, hi_35_1⟩ := hi_35
                refine lv_iload hx hb dX10_scanName_73 (lv_at hl 5 rfl) ?_
                refine lv_iload hx hb dX10_scanName_75 (lv_at hl 4 rfl) ?_
                refine lv_icmp_ge (tgt := 92) hx hb dX10_scanName_77 (by decide) (fun c_36 => ?_) (fun c_36 => ?_)
                · skip
                  have c_36' : v5_35.toInt ≥ v4_2.toInt := jb_ge (rfl) (rfl) c_36
                  refine lv_iload hx hb dX10_scanName_92 (lv_at hl 4 rfl) ?_
                  rw [hQ]
                  exact W.iret (v := v4_2) hx hb hr (fun t ht hW => ⟨⟨v4_2, (), rfl, by first | omega | (refine ⟨?_, ?_⟩ <;> (first | omega | rfl | assumption | decide | exact Or.inl rfl | exact Or.inr rfl | (simp only; omega))), hh_35.rt (M1 := []) [] rfl ht⟩, by rw [ht]; try exact hh_35.1.1, fun q h9 hq => by rw [ht]; try exact hh_35.1.2.1 q h9 hq⟩) hh_35.1.2.2 dX10_scanName_94
                · skip
                  have c_36' : v5_35.toInt < v4_2.toInt := jb_ge_n (rfl) (rfl) c_36
                  refine lv_aload_n hx hb dX10_scanName_80 rfl (lv_at hl 0 rfl) ?_
                  refine lv_iconst (v := 0) hx hb dX10_scanName_81 (by decide) ?_
                  refine lv_iconst (v := 0) hx hb dX10_scanName_82 (by decide) ?_
                  obtain ⟨v_39, hv_39, hh_40⟩ := hh_35.pin (C := RX10) (T := TX10) (N := 11) hB12 rfl (by decide) hg_r0 (i := 3) (by decide) rfl
                  obtain ⟨tokens_41, rfl, hlotokens_41, hhitokens_41⟩ := hv_39
                  refine va_callv (A0 := jA base) (H0 := s.heap) (va_runV (As := [.int 0, .int 0]) (rest := []) ⟨hx, hb, hml, hown, hts⟩ (uX10_add l dC dI ca base B hB hAp hB12 hB101 G0 H_35 r0 0 0 tokens_41) (cwV 2 hts (jgV (jWr_37 _ (List.mem_of_getElem? (i := 7) rfl)) (jWr_37 _ (List.mem_of_getElem? (i := 8) rfl)) (jWr_37 _ (List.mem_of_getElem? (i := 9) rfl)) (jWr_4 _ (List.mem_of_getElem? (i := 14) rfl)) (jWr_37 _ (List.mem_of_getElem? (i := 10) rfl))) rfl rfl rfl (by decide +kernel) ⟨by rw [← hR]; exact Nat.le_of_ble_eq_true rfl, by rw [← hR]; exact Nat.le_of_ble_eq_true rfl⟩) ⟨fun a U g mk q => by obtain ⟨q0, q1, q2, qK, q10, q11, q12⟩ := q; exact ⟨q0, q1, q2, jG.calling g mk a qK, q10, q11, q12⟩, hh_40.recv (C := RX10) (T := TX10) (N := 11) hB12 rfl (by decide) hg_r0 hK, fun U hU hW => ⟨rfl, hU, hh_40.2.1, hG.step hW hU hh_40.1, hg_r0, (hh_40.2.2.1.sub (L1 := [(r0, 12, 3, .int tokens_41)]) [0] rfl), by first | omega | (refine ⟨?_, ?_⟩ <;> (first | omega | rfl | assumption | decide | exact Or.inl rfl | exact Or.inr rfl | (simp only; omega)))⟩⟩ rfl rfl hl.1 rfl (lv_room (Nat.le_of_ble_eq_true rfl)) dX10_scanName_83 ⟨Nat.zero_le _, Nat.zero_le _⟩) hh_40.1 (fun q _ h => h) (fun q h => h) (fun u_37 t_37 H_37 locs_37 ht_37 hvm_37 hr_38 hb_37 hz_37 hk_37 hS_37 => ?_)
                  obtain ⟨qk_37, rfl⟩ : ∃ z, z = u_37 := ⟨_, rfl⟩
                  rw [ht_37] at hb_37
                  obtain ⟨hb_371, hb_372, hb_373, hb_374, hb_375⟩ := hb_37
                  have hh_37 : jSt (dC, dI) B base G0 G0 EX10_scanName s.heap 0 0 [(r0, 12, 3, .int qk_37)] [] [] H_37 locs_37 := ((hh_40.call hb_371 hb_372 hb_373 hb_374 hS_37 rfl (L1 := []) [] rfl rfl (M1 := []) [] rfl rfl (I1 := []) [] rfl rfl).more hb_375)
                  clear hh_40 ht_37 hvm_37 hz_37 hk_37 hS_37 hb_371 hb_372 hb_373 hb_374 hb_375
                  obtain ⟨hr_38_0, hr_38_1, hr_38_2⟩ := hr_38
                  obtain ⟨z_42, ez_42⟩ : ∃ y : Int32, y = v5_35 + 1 := ⟨_, rfl⟩
                  refine lv_iinc (v := z_42) (lv' := [(5, .int z_42), (0, .ref r0), (1, .ref r1), (2, .int a2), (3, .int a3), (4, .int v4_2)]) hx hb dX10_scanName_86 hl (k := 5) rfl (by rw [ez_42]; rfl) (by decide) rfl (fun ls hl => ?_)
                  have hz_42 : z_42.toInt = v5_35.toInt + 1 := by rw [ez_42]; exact jb_iadd2 (rfl) (by decide) (by omega)
                  refine lv_goto (tgt := 73) hx hb dX10_scanName_89 (by decide) ?_
                  exact L73 z_42 _ _ (hh_37.sub (L1 := []) [] rfl (M1 := []) [] rfl (I1 := []) [] rfl) (by first | omega | (refine ⟨?_, ?_⟩ <;> (first | omega | rfl | assumption | decide | exact Or.inl rfl | exact Or.inr rfl | (simp only; omega)))) (by omega) _ (lv_sub hl [1, 2, 3, 4, 5, 0] rfl)
            exact L73 (v4_2.toInt - (a2 : Int32).toInt : Int).toNat.succ a2 _ _ hh_2 (by first | omega | (refine ⟨?_, ?_⟩ <;> (first | omega | rfl | assumption | decide | exact Or.inl rfl | exact Or.inr rfl | (simp only; omega)))) (by omega) _ (lv_sub hl [1, 2, 3, 4, 5, 0] rfl)
          · skip
            have c_34' : z_33.toInt ≤ 10 := jb_gt_n (rfl) ((by decide)) c_34
            refine lv_aload_n hx hb dX10_scanName_36 rfl (lv_at hl 0 rfl) ?_
            obtain ⟨v_43, hv_43, hh_44⟩ := hh_2.pin (C := RX10) (T := TX10) (N := 11) hB12 rfl (by decide) hg_r0 (i := 0) (by decide) rfl
            clear hh_2
            obtain ⟨names_45, rfl, hg_names_45⟩ := hv_43
            refine j7_read hx hb hown hK (C := RX10) (T := TX10) (N := 11) rfl hly_12_0 hlk_24 (hh_44.at 0 rfl) dX10_scanName_37 ?_
            refine lv_aload_n hx hb dX10_scanName_40 rfl (lv_at hl 1 rfl) ?_
            refine lv_iload_n hx hb dX10_scanName_41 rfl (lv_at hl 2 rfl) ?_
            refine lv_iload hx hb dX10_scanName_42 (lv_at hl 4 rfl) ?_
            refine lv_iconst (v := 1) hx hb dX10_scanName_44 (by decide) ?_
            refine va_calli (A0 := jA base) (H0 := s.heap) (va_runV (As := [.ref r1, .int a2, .int v4_2, .int 1]) (rest := []) ⟨hx, hb, hml, hown, hts⟩ (uX6_numberOf l dC dI ca base B hB hAp hB8 hB101 hB102 hB132 hB133 G0 H_2 names_45 r1 a2 v4_2 1 n1) (cwV 4 hts (jgV (jWr_37 _ (List.mem_of_getElem? (i := 6) rfl)) (jWr_7 _ (List.mem_of_getElem? (i := 14) rfl)) (jWr_7 _ (List.mem_of_getElem? (i := 15) rfl)) (jWr_4 _ (List.mem_of_getElem? (i := 10) rfl)) (jWr_7 _ (List.mem_of_getElem? (i := 16) rfl))) rfl rfl rfl (by decide +kernel) ⟨by rw [← hR]; exact Nat.le_of_ble_eq_true rfl, by rw [← hR]; exact Nat.le_of_ble_eq_true rfl⟩) ⟨fun a U g mk q => by obtain ⟨q0, q1, q2, qK, q10, q11, q12, q13⟩ := q; exact ⟨q0, q1, q2, jG.calling g mk a qK, q10, q11, q12, q13⟩, hh_44.recv (C := RX6) (T := TX6) (N := 4) hB8 rfl (by decide) hg_names_45 hK, fun U hU hW => ⟨rfl, hU, hh_44.2.1, hG.step hW hU hh_44.1, hg_r1, hg_names_45, jP.nil, by first | omega | rfl | assumption | decide | exact Or.inl rfl | exact Or.inr rfl | (simp only; omega)⟩⟩ rfl rfl hl.1 rfl (lv_room (Nat.le_of_ble_eq_true rfl)) dX10_scanName_45 ⟨Nat.zero_le _, Nat.zero_le _⟩) hh_44.1 (fun q _ h => h) (fun q h => h) (fun r_47 u_46 t_46 H_46 locs_46 ht_46 hvm_46 hr_47 hb_46 hz_46 hk_46 hS_46 => ?_)
            rw [ht_46] at hb_46
            obtain ⟨hb_461, hb_462, hb_463, hb_464, hb_465⟩ := hb_46
            have hh_46 : jSt (dC, dI) B base G0 G0 EX10_scanName s.heap 0 0 [(r0, 12, 0, .ref names_45)] [] [] H_46 locs_46 := ((hh_44.call hb_461 hb_462 hb_463 hb_464 hS_46 rfl (L1 := [(r0, 12, 0, .ref names_45)]) [0] rfl rfl (M1 := []) [] rfl rfl (I1 := []) [] rfl rfl).more hb_465)
            clear hh_44 ht_46 hvm_46 hz_46 hk_46 hS_46 hb_461 hb_462 hb_463 hb_464 hb_465
            obtain ⟨hr_47_0, hr_47_1⟩ := hr_47
            refine lv_istore (lv' := [(5, .int r_47), (0, .ref r0), (1, .ref r1), (2, .int a2), (3, .int a3), (4, .int v4_2)]) hx hb dX10_scanName_48 hl (by decide) rfl (fun ls hl => ?_)
            refine lv_aload_n hx hb dX10_scanName_50 rfl (lv_at hl 1 rfl) ?_
            refine lv_iload hx hb dX10_scanName_51 (lv_at hl 0 rfl) ?_
            refine lv_if_ge (tgt := 60) hx hb dX10_scanName_53 (by decide) (fun c_48 => ?_) (fun c_48 => ?_)
            · skip
              have c_48' : r_47.toInt ≥ 0 := jb_ge (rfl) ((by decide)) c_48
              refine lv_bipush (v := 110) hx hb dX10_scanName_60 (by decide) ?_
              refine lv_iload hx hb dX10_scanName_62 (lv_at hl 0 rfl) ?_
              obtain ⟨v_51, hv_51, hh_52⟩ := hh_46.pin (C := RX10) (T := TX10) (N := 11) hB12 rfl (by decide) hg_r0 (i := 3) (by decide) rfl
              obtain ⟨tokens_53, rfl, hlotokens_53, hhitokens_53⟩ := hv_51
              refine va_callv (A0 := jA base) (H0 := s.heap) (va_runV (As := [.int 110, .int r_47]) (rest := []) ⟨hx, hb, hml, hown, hts⟩ (uX10_add l dC dI ca base B hB hAp hB12 hB101 G0 H_46 r0 110 r_47 tokens_53) (cwV 2 hts (jgV (jWr_37 _ (List.mem_of_getElem? (i := 7) rfl)) (jWr_37 _ (List.mem_of_getElem? (i := 8) rfl)) (jWr_37 _ (List.mem_of_getElem? (i := 9) rfl)) (jWr_4 _ (List.mem_of_getElem? (i := 14) rfl)) (jWr_37 _ (List.mem_of_getElem? (i := 10) rfl))) rfl rfl rfl (by decide +kernel) ⟨by rw [← hR]; exact Nat.le_of_ble_eq_true rfl, by rw [← hR]; exact Nat.le_of_ble_eq_true rfl⟩) ⟨fun a U g mk q => by obtain ⟨q0, q1, q2, qK, q10, q11, q12⟩ := q; exact ⟨q0, q1, q2, jG.calling g mk a qK, q10, q11, q12⟩, hh_52.recv (C := RX10) (T := TX10) (N := 11) hB12 rfl (by decide) hg_r0 hK, fun U hU hW => ⟨rfl, hU, hh_52.2.1, hG.step hW hU hh_52.1, hg_r0, (hh_52.2.2.1.sub (L1 := [(r0, 12, 3, .int tokens_53)]) [0] rfl), by first | omega | (refine ⟨?_, ?_⟩ <;> (first | omega | rfl | assumption | decide | exact Or.inl rfl | exact Or.inr rfl | (simp only; omega)))⟩⟩ rfl rfl hl.1 rfl (lv_room (Nat.le_of_ble_eq_true rfl)) dX10_scanName_64 ⟨Nat.zero_le _, Nat.zero_le _⟩) hh_52.1 (fun q _ h => h) (fun q h => h) (fun u_49 t_49 H_49 locs_49 ht_49 hvm_49 hr_50 hb_49 hz_49 hk_49 hS_49 => ?_)
              obtain ⟨qk_49, rfl⟩ : ∃ z, z = u_49 := ⟨_, rfl⟩
              rw [ht_49] at hb_49
              obtain ⟨hb_491, hb_492, hb_493, hb_494, hb_495⟩ := hb_49
              have hh_49 : jSt (dC, dI) B base G0 G0 EX10_scanName s.heap 0 0 [(r0, 12, 3, .int qk_49), (r0, 12, 0, .ref names_45)] [] [] H_49 locs_49 := ((hh_52.call hb_491 hb_492 hb_493 hb_494 hS_49 rfl (L1 := [(r0, 12, 0, .ref names_45)]) [1] rfl rfl (M1 := []) [] rfl rfl (I1 := []) [] rfl rfl).more hb_495)
              clear hh_52 ht_49 hvm_49 hz_49 hk_49 hS_49 hb_491 hb_492 hb_493 hb_494 hb_495
              obtain ⟨hr_50_0, hr_50_1, hr_50_2⟩ := hr_50
              refine lv_goto (tgt := 92) hx hb dX10_scanName_67 (by decide) ?_
              refine lv_iload hx hb dX10_scanName_92 (lv_at hl 5 rfl) ?_
              rw [hQ]
              exact W.iret (v := v4_2) hx hb hr (fun t ht hW => ⟨⟨v4_2, (), rfl, by first | omega | (refine ⟨?_, ?_⟩ <;> (first | omega | rfl | assumption | decide | exact Or.inl rfl | exact Or.inr rfl | (simp only; omega))), hh_49.rt (M1 := []) [] rfl ht⟩, by rw [ht]; try exact hh_49.1.1, fun q h9 hq => by rw [ht]; try exact hh_49.1.2.1 q h9 hq⟩) hh_49.1.2.2 dX10_scanName_94
            · skip
              have c_48' : r_47.toInt < 0 := jb_ge_n (rfl) ((by decide)) c_48
              refine lv_iconst (v := 0) hx hb dX10_scanName_56 (by decide) ?_
              refine lv_goto (tgt := 62) hx hb dX10_scanName_57 (by decide) ?_
              refine lv_iload hx hb dX10_scanName_62 (lv_at hl 0 rfl) ?_
              obtain ⟨v_56, hv_56, hh_57⟩ := hh_46.pin (C := RX10) (T := TX10) (N := 11) hB12 rfl (by decide) hg_r0 (i := 3) (by decide) rfl
              obtain ⟨tokens_58, rfl, hlotokens_58, hhitokens_58⟩ := hv_56
              refine va_callv (A0 := jA base) (H0 := s.heap) (va_runV (As := [.int 0, .int r_47]) (rest := []) ⟨hx, hb, hml, hown, hts⟩ (uX10_add l dC dI ca base B hB hAp hB12 hB101 G0 H_46 r0 0 r_47 tokens_58) (cwV 2 hts (jgV (jWr_37 _ (List.mem_of_getElem? (i := 7) rfl)) (jWr_37 _ (List.mem_of_getElem? (i := 8) rfl)) (jWr_37 _ (List.mem_of_getElem? (i := 9) rfl)) (jWr_4 _ (List.mem_of_getElem? (i := 14) rfl)) (jWr_37 _ (List.mem_of_getElem? (i := 10) rfl))) rfl rfl rfl (by decide +kernel) ⟨by rw [← hR]; exact Nat.le_of_ble_eq_true rfl, by rw [← hR]; exact Nat.le_of_ble_eq_true rfl⟩) ⟨fun a U g mk q => by obtain ⟨q0, q1, q2, qK, q10, q11, q12⟩ := q; exact ⟨q0, q1, q2, jG.calling g mk a qK, q10, q11, q12⟩, hh_57.recv (C := RX10) (T := TX10) (N := 11) hB12 rfl (by decide) hg_r0 hK, fun U hU hW => ⟨rfl, hU, hh_57.2.1, hG.step hW hU hh_57.1, hg_r0, (hh_57.2.2.1.sub (L1 := [(r0, 12, 3, .int tokens_58)]) [0] rfl), by first | omega | (refine ⟨?_, ?_⟩ <;> (first | omega | rfl | assumption | decide | exact Or.inl rfl | exact Or.inr rfl | (simp only; omega)))⟩⟩ rfl rfl hl.1 rfl (lv_room (Nat.le_of_ble_eq_true rfl)) dX10_scanName_64 ⟨Nat.zero_le _, Nat.zero_le _⟩) hh_57.1 (fun q _ h => h) (fun q h => h) (fun u_54 t_54 H_54 locs_54 ht_54 hvm_54 hr_55 hb_54 hz_54 hk_54 hS_54 => ?_)
              obtain ⟨qk_54, rfl⟩ : ∃ z, z = u_54 := ⟨_, rfl⟩
              rw [ht_54] at hb_54
              obtain ⟨hb_541, hb_542, hb_543, hb_544, hb_545⟩ := hb_54
              have hh_54 : jSt (dC, dI) B base G0 G0 EX10_scanName s.heap 0 0 [(r0, 12, 3, .int qk_54), (r0, 12, 0, .ref names_45)] [] [] H_54 locs_54 := ((hh_57.call hb_541 hb_542 hb_543 hb_544 hS_54 rfl (L1 := [(r0, 12, 0, .ref names_45)]) [1] rfl rfl (M1 := []) [] rfl rfl (I1 := []) [] rfl rfl).more hb_545)
              clear hh_57 ht_54 hvm_54 hz_54 hk_54 hS_54 hb_541 hb_542 hb_543 hb_544 hb_545
              obtain ⟨hr_55_0, hr_55_1, hr_55_2⟩ := hr_55
              refine lv_goto (tgt := 92) hx hb dX10_scanName_67 (by decide) ?_
              refine lv_iload hx hb dX10_scanName_92 (lv_at hl 5 rfl) ?_
              rw [hQ]
              exact W.iret (v := v4_2) hx hb hr (fun t ht hW => ⟨⟨v4_2, (), rfl, by first | omega | (refine ⟨?_, ?_⟩ <;> (first | omega | rfl | assumption | decide | exact Or.inl rfl | exact Or.inr rfl | (simp only; omega))), hh_54.rt (M1 := []) [] rfl ht⟩, by rw [ht]; try exact hh_54.1.1, fun q h9 hq => by rw [ht]; try exact hh_54.1.2.1 q h9 hq⟩) hh_54.1.2.2 dX10_scanName_94
        · skip
          have c_32' : r_31.toInt ≥ 0 := jb_lt_n (rfl) ((by decide)) c_32
          obtain ⟨z_59, ez_59⟩ : ∃ y : Int32, y = v4_2 + 1 := ⟨_, rfl⟩
          refine lv_iinc (v := z_59) (lv' := [(4, .int z_59), (0, .ref r0), (1, .ref r1), (2, .int a2), (3, .int a3)]) hx hb dX10_scanName_21 hl (k := 4) rfl (by rw [ez_59]; rfl) (by decide) rfl (fun ls hl => ?_)
          have hz_59 : z_59.toInt = v4_2.toInt + 1 := by rw [ez_59]; exact jb_iadd2 (rfl) (by decide) (by omega)
          refine lv_goto (tgt := 5) hx hb dX10_scanName_24 (by decide) ?_
          exact L5 z_59 _ _ hh_2 (by first | omega | (refine ⟨?_, ?_⟩ <;> (first | omega | rfl | assumption | decide | exact Or.inl rfl | exact Or.inr rfl | (simp only; omega)))) (by omega) _ (lv_sub hl [1, 2, 3, 4, 0] rfl)
  exact L5 (a3.toInt - (z_1 : Int32).toInt : Int).toNat.succ z_1 _ _ hh (by first | omega | (refine ⟨?_, ?_⟩ <;> (first | omega | rfl | assumption | decide | exact Or.inl rfl | exact Or.inr rfl | (simp only; omega)))) (by omega) _ (lv_sub hl [1, 2, 3, 4, 0] rfl)
set_option maxHeartbeats 4000000 in
set_option maxRecDepth 20000 in
theorem uX10_scan (l : Launch) (dC : Nat → ClassId) (dI : Nat → Nat → Nat) (ca : Nat → ClassId) (base : Nat) (B : jF) (hB : jBok B) (hAp : jAp (dC, dI)) (hB8 : ∀ n G a H, B 8 n G a H ↔ jOb (dC, dI) 8 4 (F8 n G) a H) (hB12 : ∀ n G a H, B 12 n G a H ↔ jOb (dC, dI) 12 11 (F12 n G) a H) (hB101 : ∀ n G a H, B 101 n G a H ↔ jAr (dC, dI) (ca 1) (fun j z => True) n a H) (hB102 : ∀ n G a H, B 102 n G a H ↔ jAl (dC, dI) (ca 2) n a H) (hB132 : ∀ n G a H, B 132 n G a H ↔ jAr (dC, dI) (ca 1) (fun j z => 0 ≤ z.toInt ∧ z.toInt ≤ 10) n a H) (hB133 : ∀ n G a H, B 133 n G a H ↔ jAr (dC, dI) (ca 1) (fun j z => 0 ≤ z.toInt ∧ z.toInt ≤ 8192) n a H) (G0 : jT) (H0 : Heap) (r0 : Nat) (r1 : Nat) (a2 : Int32) (a3 : Int32) (n1 : Nat) : Met l yX10_scan (jw yX10_scan cX10_scan 8 (some .int)) ({ frames := 5, cells := 0, slots := 0, locals := 181 }) (va_Pc [.ref r0, .ref r1, .int a2, .int a3] (fun U => U.heap = H0 ∧ jX B base G0 [] H0 ∧ jG dC dI ca base U ∧ G0 r1 = some (101, n1) ∧ G0 r0 = some (12, 0) ∧ jP (dC, dI) G0 H0 [] ∧ n1 < 1000000 ∧ a2.toInt ≤ 1000000)) (va_Qi (S := Unit) (fun r u => (0 ≤ r.toInt ∧ r.toInt ≤ 1500)) (fun u t => jRt (dC, dI) B base G0 EX10_scan H0 [] t.heap) (jA base)) 0 0 (jA base) := by
  refine Met.ofW (cc := cX10_scan) (maxL := 8) (ret := (some .int)) (by decide) rfl ?_
  intro p e s m args below meth c s₁ Bd hml hv
  obtain ⟨rfl, hH0, hX, hG, hg_r1, hg_r0, hP0, hp0, hp1⟩ := hv
  have hK := hG.1
  have hx := Bd.exec
  have hb := Bd.bytes
  have hr := Bd.returns
  have hts := atoms_spec (ws := (jw yX10_scan cX10_scan 8 (some .int))) Bd.pre
  have htw : ∀ w ∈ jWl, w.before _ s = true := fun w h => hts w (List.mem_cons_of_mem _ h)
  have hown : s.vm.findClass RX10 = some m.cls := findClass_of_methodNamed Bd.named
  have hlocks := Bd.notSynchronized
  obtain ⟨Q, hQ⟩ : ∃ Q, Q = MQ below (va_Qi (S := Unit) (fun r u => (0 ≤ r.toInt ∧ r.toInt ≤ 1500)) (fun u t => jRt (dC, dI) B base G0 EX10_scan H0 [] t.heap) (jA base)) ([.ref r0, .ref r1, .int a2, .int a3] : List Value).toArray s 0 0 (jA base) := ⟨_, rfl⟩
  rw [← hQ]
  have hl := lv_entry ([.ref r0, .ref r1, .int a2, .int a3]) (n := 8) (Nat.le_of_ble_eq_true rfl)
  rw [lg_entry_eq]
  generalize (lg_sl ([.ref r0, .ref r1, .int a2, .int a3]) ++ List.replicate (8 - (lg_sl ([.ref r0, .ref r1, .int a2, .int a3])).length) Slot.unset).toArray = ls at hl ⊢
  have hl : lv_has ls 8 [(0, .ref r0), (1, .ref r1), (2, .int a2), (3, .int a3)] := hl
  generalize hR : (headSpec (jw yX10_scan cX10_scan 8 (some .int)) ({ frames := 5, cells := 0, slots := 0, locals := 181 })).room = R
  subst hH0
  have hh : jSt (dC, dI) B base G0 G0 EX10_scan s.heap 0 0 [] [] [] s.heap [] := jSt.start hX hP0 jMc.nil jIs.nil
  clear hX hP0
  have hk0 : (0 : Int32).toInt = 0 := by decide
  have hk1 : (1 : Int32).toInt = 1 := by decide
  have hk2 : (2 : Int32).toInt = 2 := by decide
  have hk45 : (45 : Int32).toInt = 45 := by decide
  have hk46 : (46 : Int32).toInt = 46 := by decide
  have hk48 : (48 : Int32).toInt = 48 := by decide
  have hk62 : (62 : Int32).toInt = 62 := by decide
  have hk100 : (100 : Int32).toInt = 100 := by decide
  have hk128 : (128 : Int32).toInt = 128 := by decide
  have hly_12_3 := htw (u_lay RX10 TX10 3) (jWc_wsX100 _ (u_in_lay (by decide)))
  have hlk_28 := (htw (.fieldLink RX10 28 "ProofServer$Syntax" "tokens" "I") (jWr_36 _ (List.mem_of_getElem? (i := 23) rfl)))
  obtain ⟨str66, rstr66, hstr660⟩ := hG.str (o := RX10) (k := 66) (tx := "*+~=:,()") (List.mem_of_getElem? (i := 1152) (by decide +kernel))
  have hstr66 : jStr base str66 8 s s.heap := hstr660
  have hrg_a2 := jb_rng a2
  have hrg_a3 := jb_rng a3
  refine lv_aload_n hx hb dX10_scan_0 rfl (lv_at hl 0 rfl) ?_
  refine lv_iconst (v := 0) hx hb dX10_scan_1 (by decide) ?_
  refine j7_put hx hb hown hK hh hB hAp hB12 (C := RX10) (T := TX10) (N := 11) rfl (by decide) hg_r0 (i := 3) (by decide) hly_12_3 rfl hlk_28 rfl (ty := .int) (v := .int 0) (by decide +kernel) rfl rfl (⟨_, rfl, by omega, by omega⟩) rfl (L1 := []) [] rfl rfl rfl dX10_scan_2 (fun H_1 locs_1 hh_1 => ?_)
  clear hh
  refine lv_iload_n hx hb dX10_scan_5 rfl (lv_at hl 3 rfl) ?_
  refine lv_aload_n hx hb dX10_scan_6 rfl (lv_at hl 1 rfl) ?_
  refine j7_len hx hb hK hh_1 hB101 1 rfl (by decide) hg_r1 (by omega) dX10_scan_7 (fun z_2 hz_2 => ?_)
  refine va_mmin hx hb (by rw [hml]; exact hl.1.symm) hown (htw (.methodLink RX10 32 Lib.Math.min.name) (jWr_37 _ (List.mem_of_getElem? (i := 0) rfl))) (htw (.static Lib.Math.min.name) (jWr_16 _ (List.mem_of_getElem? (i := 16) rfl))) (htw (.initialized "java/lang/Math") (jWr_3 _ (List.mem_of_getElem? (i := 7) rfl))) (htw (.code Lib.Math.min.name Lib.Math.min.code 2 (some .int)) (jWr_16 _ (List.mem_of_getElem? (i := 17) rfl))) (by rw [← hR]; exact Nat.le_of_ble_eq_true rfl) (by rw [← hR]; exact Nat.le_of_ble_eq_true rfl) (Nat.zero_le _) (Nat.zero_le _) dX10_scan_8 ?_
  refine lv_topi (fun z_3 ez_3 => ?_)
  have hz_3 := jb_min ez_3
  refine lv_istore (lv' := [(4, .int z_3), (0, .ref r0), (1, .ref r1), (2, .int a2), (3, .int a3)]) hx hb dX10_scan_11 hl (by decide) rfl (fun ls hl => ?_)
  refine lv_iload_n hx hb dX10_scan_13 rfl (lv_at hl 3 rfl) ?_
  refine lv_iconst (v := 0) hx hb dX10_scan_14 (by decide) ?_
  refine va_mmax hx hb (by rw [hml]; exact hl.1.symm) hown (htw (.methodLink RX10 38 Lib.Math.max.name) (jWr_37 _ (List.mem_of_getElem? (i := 1) rfl))) (htw (.static Lib.Math.max.name) (jWr_3 _ (List.mem_of_getElem? (i := 6) rfl))) (htw (.initialized "java/lang/Math") (jWr_3 _ (List.mem_of_getElem? (i := 7) rfl))) (htw (.code Lib.Math.max.name Lib.Math.max.code 2 (some .int)) (jWr_3 _ (List.mem_of_getElem? (i := 8) rfl))) (by rw [← hR]; exact Nat.le_of_ble_eq_true rfl) (by rw [← hR]; exact Nat.le_of_ble_eq_true rfl) (Nat.zero_le _) (Nat.zero_le _) dX10_scan_15 ?_
  refine lv_topi (fun z_4 ez_4 => ?_)
  have hz_4 := jb_max ez_4
  refine lv_istore (lv' := [(5, .int z_4), (4, .int z_3), (0, .ref r0), (1, .ref r1), (2, .int a2), (3, .int a3)]) hx hb dX10_scan_18 hl (by decide) rfl (fun ls hl => ?_)
  have L20 : ∀ (N : Nat) (v5_5 : Int32) (H_5 : Heap) (locs_5 : List Loc), jSt (dC, dI) B base G0 G0 EX10_scan s.heap 0 0 [] [] [] H_5 locs_5 → (0 ≤ v5_5.toInt) → (((z_3.toInt - v5_5.toInt).toNat : Int) : Int) < N → ∀ ls : Array Slot, lv_has ls 8 [(0, .ref r0), (1, .ref r1), (2, .int a2), (3, .int a3), (4, .int z_3), (5, .int v5_5)] → W p l e R s m ([.ref r0, .ref r1, .int a2, .int a3] : List Value).toArray below meth c H_5 locs_5 0 0 Q (F0 m 20 ls []) := by
    intro N
    induction N with
    | zero => intro v5_5 H_5 locs_5 hh_5  hi_5 hm; exact absurd hm (by omega)
    | succ N L20 =>
      intro v5_5 H_5 locs_5 hh_5  hi_5 hm_5 ls hl
      refine lv_iload hx hb dX10_scan_20 (lv_at hl 5 rfl) ?_
      refine lv_iload hx hb dX10_scan_22 (lv_at hl 4 rfl) ?_
      refine lv_icmp_ge (tgt := 240) hx hb dX10_scan_24 (by decide) (fun c_6 => ?_) (fun c_6 => ?_)
      · skip
        have c_6' : v5_5.toInt ≥ z_3.toInt := jb_ge (rfl) (rfl) c_6
        refine lv_aload_n hx hb dX10_scan_240 rfl (lv_at hl 0 rfl) ?_
        obtain ⟨v_7, hv_7, hh_8⟩ := hh_5.pin (C := RX10) (T := TX10) (N := 11) hB12 rfl (by decide) hg_r0 (i := 3) (by decide) rfl
        clear hh_5
        obtain ⟨tokens_9, rfl, hlotokens_9, hhitokens_9⟩ := hv_7
        refine j7_read hx hb hown hK (C := RX10) (T := TX10) (N := 11) rfl hly_12_3 hlk_28 (hh_8.at 0 rfl) dX10_scan_241 ?_
        rw [hQ]
        exact W.iret (v := tokens_9) hx hb hr (fun t ht hW => ⟨⟨tokens_9, (), rfl, by first | omega | (refine ⟨?_, ?_⟩ <;> (first | omega | rfl | assumption | decide | exact Or.inl rfl | exact Or.inr rfl | (simp only; omega))), hh_8.rt (M1 := []) [] rfl ht⟩, by rw [ht]; try exact hh_8.1.1, fun q h9 hq => by rw [ht]; try exact hh_8.1.2.1 q h9 hq⟩) hh_8.1.2.2 dX10_scan_244
      · skip
        have c_6' : v5_5.toInt < z_3.toInt := jb_ge_n (rfl) (rfl) c_6
        refine lv_iload hx hb dX10_scan_27 (lv_at hl 5 rfl) ?_
        refine lv_iconst (v := 1) hx hb dX10_scan_29 (by decide) ?_
        refine lv_iadd hx hb dX10_scan_30 ?_
        refine lv_topi (fun z_10 ez_10 => ?_)
        have hz_10 : z_10.toInt = v5_5.toInt + 1 := by rw [ez_10]; exact jb_iadd2 (rfl) ((by decide)) (by omega)
        refine lv_istore (lv' := [(6, .int z_10), (0, .ref r0), (1, .ref r1), (2, .int a2), (3, .int a3), (4, .int z_3), (5, .int v5_5)]) hx hb dX10_scan_31 hl (by decide) rfl (fun ls hl => ?_)
        refine lv_aload_n hx hb dX10_scan_33 rfl (lv_at hl 2 rfl) ?_
        refine lv_iload hx hb dX10_scan_34 (lv_at hl 6 rfl) ?_
        refine lv_iload hx hb dX10_scan_36 (lv_at hl 5 rfl) ?_
        refine va_calli (A0 := jA base) (H0 := s.heap) (va_runSN (As := [.ref r1, .int v5_5, .int z_3]) (rest := []) ⟨hx, hb, hml, hown, hts⟩ (uX11_opensComment l dC dI ca base B hB hAp hB101 G0 H_5 r1 v5_5 z_3 n1) ⟨va_cnB 3 hts (jgW (jWr_36 _ (List.mem_of_getElem? (i := 14) rfl))) rfl rfl rfl (hG.2.2.1 RX10 41 yX11_opensComment "ProofServer" (List.mem_of_getElem? (i := 1137) (by decide +kernel))) (htw (.initialized RX11) (jWr_1 _ (List.mem_of_getElem? (i := 2) rfl))) (by decide +kernel) ⟨by rw [← hR]; exact Nat.le_of_ble_eq_true rfl, by rw [← hR]; exact Nat.le_of_ble_eq_true rfl⟩, htw (.static yX11_opensComment) (jWr_36 _ (List.mem_of_getElem? (i := 13) rfl)), trivial⟩ ⟨fun a U g mk q => by obtain ⟨q0, q1, q2, qK, q10, q11, q12⟩ := q; exact ⟨q0, q1, q2, jG.calling g mk a qK, q10, q11, q12⟩, fun U hU hW => ⟨rfl, hU, hh_5.2.1, hG.step hW hU hh_5.1, hg_r1, jP.nil, by first | omega | (refine ⟨?_, ?_⟩ <;> (first | omega | rfl | assumption | decide | exact Or.inl rfl | exact Or.inr rfl | (simp only; omega)))⟩⟩ rfl rfl hl.1 rfl (lv_room (Nat.le_of_ble_eq_true rfl)) dX10_scan_38 ⟨Nat.zero_le _, Nat.zero_le _⟩) hh_5.1 (fun q _ h => h) (fun q h => h) (fun r_12 u_11 t_11 H_11 locs_11 ht_11 hvm_11 hr_12 hb_11 hz_11 hk_11 hS_11 => ?_)
        rw [ht_11] at hb_11
        obtain ⟨hb_111, hb_112, hb_113, hb_114, hb_115⟩ := hb_11
        have hh_11 : jSt (dC, dI) B base G0 G0 EX10_scan s.heap 0 0 [] [] [] H_11 locs_11 := ((hh_5.call hb_111 hb_112 hb_113 hb_114 hS_11 rfl (L1 := []) [] rfl rfl (M1 := []) [] rfl rfl (I1 := []) [] rfl rfl).more hb_115)
        clear hh_5 ht_11 hvm_11 hz_11 hk_11 hS_11 hb_111 hb_112 hb_113 hb_114 hb_115
        obtain ⟨hr_12b, hr_12p⟩ := hr_12
        have hr_12' := jb_01 hr_12b
        have C226 : ∀ (v6_13 : Int32) (v6_13 : Int32) (H_13 : Heap) (locs_13 : List Loc), jSt (dC, dI) B base G0 G0 EX10_scan s.heap 0 0 [] [] [] H_13 locs_13 → (0 ≤ v5_5.toInt ∧ v6_13.toInt ≤ 1000000) → ∀ ls : Array Slot, lv_has ls 8 [(0, .ref r0), (1, .ref r1), (2, .int a2), (3, .int a3), (4, .int z_3), (5, .int v5_5), (6, .int v6_13), (6, .int v6_13)] → W p l e R s m ([.ref r0, .ref r1, .int a2, .int a3] : List Value).toArray below meth c H_13 locs_13 0 0 Q (F0 m 226 ls []) := by
          intro v6_13 v6_13 H_13 locs_13 hh_13  hi_13 ls hl
          obtain ⟨hi_13_0, hi_13_1⟩ := hi_13
          try clear hr_12p
          refine lv_iload hx hb dX10_scan_226 (lv_at hl 5 rfl) ?_
          refine lv_iconst (v := 1) hx hb dX10_scan_228 (by decide) ?_
          refine lv_iadd hx hb dX10_scan_229 ?_
          refine lv_topi (fun z_14 ez_14 => ?_)
          have hz_14 : z_14.toInt = v5_5.toInt + 1 := by rw [ez_14]; exact jb_iadd2 (rfl) ((by decide)) (by omega)
          refine lv_iload hx hb dX10_scan_230 (lv_at hl 6 rfl) ?_
          refine va_mmax hx hb (by rw [hml]; exact hl.1.symm) hown (htw (.methodLink RX10 38 Lib.Math.max.name) (jWr_37 _ (List.mem_of_getElem? (i := 1) rfl))) (htw (.static Lib.Math.max.name) (jWr_3 _ (List.mem_of_getElem? (i := 6) rfl))) (htw (.initialized "java/lang/Math") (jWr_3 _ (List.mem_of_getElem? (i := 7) rfl))) (htw (.code Lib.Math.max.name Lib.Math.max.code 2 (some .int)) (jWr_3 _ (List.mem_of_getElem? (i := 8) rfl))) (by rw [← hR]; exact Nat.le_of_ble_eq_true rfl) (by rw [← hR]; exact Nat.le_of_ble_eq_true rfl) (Nat.zero_le _) (Nat.zero_le _) dX10_scan_232 ?_
          refine lv_topi (fun z_15 ez_15 => ?_)
          have hz_15 := jb_max ez_15
          refine lv_istore (lv' := [(5, .int z_15), (0, .ref r0), (1, .ref r1), (2, .int a2), (3, .int a3), (4, .int z_3), (6, .int v6_13), (6, .int v6_13)]) hx hb dX10_scan_235 hl (by decide) rfl (fun ls hl => ?_)
          refine lv_goto (tgt := 20) hx hb dX10_scan_237 (by decide) ?_
          exact L20 z_15 _ _ hh_13 (by first | omega | rfl | assumption | decide | exact Or.inl rfl | exact Or.inr rfl | (simp only; omega)) (by omega) _ (lv_sub hl [1, 2, 3, 4, 5, 0] rfl)
        refine lv_if_eq (tgt := 57) hx hb dX10_scan_41 (by decide) (fun c_16 => ?_) (fun c_16 => ?_)
        · skip
          have c_16' : r_12.toInt = 0 := jb_eq (rfl) ((by decide)) c_16
          first | (have hr_12pq := hr_12p.resolve_left (by omega); clear hr_12p) | (have hr_12pq := hr_12p.resolve_right (by omega); clear hr_12p) | try clear hr_12p
          refine lv_aload_n hx hb dX10_scan_57 rfl (lv_at hl 2 rfl) ?_
          refine lv_iload hx hb dX10_scan_58 (lv_at hl 6 rfl) ?_
          refine j7_iald hx hb hK hh_11 hB101 1 rfl (by decide) hg_r1 (x := v5_5.toInt) (rfl) (by omega) dX10_scan_60 (fun z_17 (hz_17 : True) => ?_)
          refine vp_callSi (va_Run.run (va_runSN (As := [.int z_17]) (rest := []) ⟨hx, hb, hml, hown, hts⟩ (wX11_isLetter l dC dI ca base H_11 z_17) ⟨va_cnB 1 hts (jgW (jWr_7 _ (List.mem_of_getElem? (i := 18) rfl))) rfl rfl rfl (hG.2.2.1 RX10 49 yX11_isLetter "ProofServer" (List.mem_of_getElem? (i := 1139) (by decide +kernel))) (htw (.initialized RX11) (jWr_1 _ (List.mem_of_getElem? (i := 2) rfl))) (by decide +kernel) ⟨by rw [← hR]; exact Nat.le_of_ble_eq_true rfl, by rw [← hR]; exact Nat.le_of_ble_eq_true rfl⟩, htw (.static yX11_isLetter) (jWr_7 _ (List.mem_of_getElem? (i := 17) rfl)), trivial⟩ ⟨fun a U g mk q => by obtain ⟨q0, q1, qK, q9⟩ := q; exact ⟨q0, q1, jG.calling g mk a qK, q9⟩, fun U hU hW => ⟨rfl, hU, hG.step hW hU hh_11.1, by first | trivial | omega | (constructor <;> omega)⟩⟩ rfl rfl hl.1 rfl (lv_room (Nat.le_of_ble_eq_true rfl)) dX10_scan_61 ⟨Nat.zero_le _, Nat.zero_le _⟩)) (fun r_18 hr_18 => ?_)
          have hr_18' : r_18.toInt = 0 ∨ r_18.toInt = 1 := jb_01 hr_18
          refine lv_if_eq (tgt := 81) hx hb dX10_scan_64 (by decide) (fun c_19 => ?_) (fun c_19 => ?_)
          · skip
            have c_19' : r_18.toInt = 0 := jb_eq (rfl) ((by decide)) c_19
            refine lv_aload_n hx hb dX10_scan_81 rfl (lv_at hl 2 rfl) ?_
            refine lv_iload hx hb dX10_scan_82 (lv_at hl 6 rfl) ?_
            refine j7_iald hx hb hK hh_11 hB101 1 rfl (by decide) hg_r1 (x := v5_5.toInt) (rfl) (by omega) dX10_scan_84 (fun z_20 (hz_20 : True) => ?_)
            refine lv_bipush (v := 45) hx hb dX10_scan_85 (by decide) ?_
            refine lv_icmp_ne (tgt := 126) hx hb dX10_scan_87 (by decide) (fun c_21 => ?_) (fun c_21 => ?_)
            · skip
              have c_21' : z_20.toInt ≠ 45 := jb_ne (rfl) ((by decide)) c_21
              refine lv_aload_n hx hb dX10_scan_126 rfl (lv_at hl 2 rfl) ?_
              refine lv_iload hx hb dX10_scan_127 (lv_at hl 6 rfl) ?_
              refine j7_iald hx hb hK hh_11 hB101 1 rfl (by decide) hg_r1 (x := v5_5.toInt) (rfl) (by omega) dX10_scan_129 (fun z_22 (hz_22 : True) => ?_)
              refine vp_callSi (va_Run.run (va_runSN (As := [.int z_22]) (rest := []) ⟨hx, hb, hml, hown, hts⟩ (wX11_isDigit l dC dI ca base H_11 z_22) ⟨va_cnB 1 hts (jgW (jWr_22 _ (List.mem_of_getElem? (i := 15) rfl))) rfl rfl rfl (hG.2.2.1 RX10 60 yX11_isDigit "ProofServer" (List.mem_of_getElem? (i := 1150) (by decide +kernel))) (htw (.initialized RX11) (jWr_1 _ (List.mem_of_getElem? (i := 2) rfl))) (by decide +kernel) ⟨by rw [← hR]; exact Nat.le_of_ble_eq_true rfl, by rw [← hR]; exact Nat.le_of_ble_eq_true rfl⟩, htw (.static yX11_isDigit) (jWr_22 _ (List.mem_of_getElem? (i := 14) rfl)), trivial⟩ ⟨fun a U g mk q => by obtain ⟨q0, q1, qK, q9⟩ := q; exact ⟨q0, q1, jG.calling g mk a qK, q9⟩, fun U hU hW => ⟨rfl, hU, hG.step hW hU hh_11.1, by first | trivial | omega | (constructor <;> omega)⟩⟩ rfl rfl hl.1 rfl (lv_room (Nat.le_of_ble_eq_true rfl)) dX10_scan_130 ⟨Nat.zero_le _, Nat.zero_le _⟩)) (fun r_23 hr_23 => ?_)
              have hr_23' : r_23.toInt = 0 ∨ r_23.toInt = 1 := jb_01 hr_23
              refine lv_if_eq (tgt := 152) hx hb dX10_scan_133 (by decide) (fun c_24 => ?_) (fun c_24 => ?_)
              · skip
                have c_24' : r_23.toInt = 0 := jb_eq (rfl) ((by decide)) c_24
                refine lv_aload_n hx hb dX10_scan_152 rfl (lv_at hl 2 rfl) ?_
                refine lv_iload hx hb dX10_scan_153 (lv_at hl 6 rfl) ?_
                refine j7_iald hx hb hK hh_11 hB101 1 rfl (by decide) hg_r1 (x := v5_5.toInt) (rfl) (by omega) dX10_scan_155 (fun z_25 (hz_25 : True) => ?_)
                refine vp_callSi (va_Run.run (va_runSN (As := [.int z_25]) (rest := []) ⟨hx, hb, hml, hown, hts⟩ (wX11_isBlank l dC dI ca base H_11 z_25) ⟨va_cnB 1 hts (jgW (jWr_20 _ (List.mem_of_getElem? (i := 0) rfl))) rfl rfl rfl (hG.2.2.1 RX10 63 yX11_isBlank "ProofServer" (List.mem_of_getElem? (i := 1151) (by decide +kernel))) (htw (.initialized RX11) (jWr_1 _ (List.mem_of_getElem? (i := 2) rfl))) (by decide +kernel) ⟨by rw [← hR]; exact Nat.le_of_ble_eq_true rfl, by rw [← hR]; exact Nat.le_of_ble_eq_true rfl⟩, htw (.static yX11_isBlank) (jWr_19 _ (List.mem_of_getElem? (i := 23) rfl)), trivial⟩ ⟨fun a U g mk q => by obtain ⟨q0, q1, qK, q9⟩ := q; exact ⟨q0, q1, jG.calling g mk a qK, q9⟩, fun U hU hW => ⟨rfl, hU, hG.step hW hU hh_11.1, by first | trivial | omega | (constructor <;> omega)⟩⟩ rfl rfl hl.1 rfl (lv_room (Nat.le_of_ble_eq_true rfl)) dX10_scan_156 ⟨Nat.zero_le _, Nat.zero_le _⟩)) (fun r_26 hr_26 => ?_)
                have hr_26' : r_26.toInt = 0 ∨ r_26.toInt = 1 := jb_01 hr_26
                refine lv_if_ne (tgt := 226) hx hb dX10_scan_159 (by decide) (fun c_27 => ?_) (fun c_27 => ?_)
                · skip
                  have c_27' : r_26.toInt ≠ 0 := jb_ne (rfl) ((by decide)) c_27
                  exact C226 z_10 z_10 _ _ hh_11 (by first | omega | (refine ⟨?_, ?_⟩ <;> (first | omega | rfl | assumption | decide | exact Or.inl rfl | exact Or.inr rfl | (simp only; omega)))) _ (lv_sub hl [1, 2, 3, 4, 5, 6, 0, 0] rfl)
                · skip
                  have c_27' : r_26.toInt = 0 := jb_ne_n (rfl) ((by decide)) c_27
                  refine lv_aload_n hx hb dX10_scan_162 rfl (lv_at hl 2 rfl) ?_
                  refine lv_iload hx hb dX10_scan_163 (lv_at hl 6 rfl) ?_
                  refine j7_iald hx hb hK hh_11 hB101 1 rfl (by decide) hg_r1 (x := v5_5.toInt) (rfl) (by omega) dX10_scan_165 (fun z_28 (hz_28 : True) => ?_)
                  refine lv_bipush (v := 46) hx hb dX10_scan_166 (by decide) ?_
                  refine lv_icmp_ne (tgt := 178) hx hb dX10_scan_168 (by decide) (fun c_29 => ?_) (fun c_29 => ?_)
                  · skip
                    have c_29' : z_28.toInt ≠ 46 := jb_ne (rfl) ((by decide)) c_29
                    refine lv_aload_n hx hb dX10_scan_178 rfl (lv_at hl 2 rfl) ?_
                    refine lv_iload hx hb dX10_scan_179 (lv_at hl 6 rfl) ?_
                    refine j7_iald hx hb hK hh_11 hB101 1 rfl (by decide) hg_r1 (x := v5_5.toInt) (rfl) (by omega) dX10_scan_181 (fun z_30 (hz_30 : True) => ?_)
                    refine lv_sipush (v := 128) hx hb dX10_scan_182 (by decide) ?_
                    refine lv_icmp_ge (tgt := 205) hx hb dX10_scan_185 (by decide) (fun c_31 => ?_) (fun c_31 => ?_)
                    · skip
                      have c_31' : z_30.toInt ≥ 128 := jb_ge (rfl) ((by decide)) c_31
                      refine lv_iconst (v := 0) hx hb dX10_scan_205 (by decide) ?_
                      refine lv_istore (lv' := [(7, .int 0), (6, .int z_10), (0, .ref r0), (1, .ref r1), (2, .int a2), (3, .int a3), (4, .int z_3), (5, .int v5_5)]) hx hb dX10_scan_206 hl (by decide) rfl (fun ls hl => ?_)
                      refine lv_aload_n hx hb dX10_scan_208 rfl (lv_at hl 2 rfl) ?_
                      refine lv_iload hx hb dX10_scan_209 (lv_at hl 0 rfl) ?_
                      refine lv_if_eq (tgt := 221) hx hb dX10_scan_211 (by decide) (fun c_32 => ?_) (fun c_32 => ?_)
                      · skip
                        refine lv_iconst (v := 0) hx hb dX10_scan_221 (by decide) ?_
                        refine lv_iconst (v := 0) hx hb dX10_scan_222 (by decide) ?_
                        obtain ⟨v_35, hv_35, hh_36⟩ := hh_11.pin (C := RX10) (T := TX10) (N := 11) hB12 rfl (by decide) hg_r0 (i := 3) (by decide) rfl
                        obtain ⟨tokens_37, rfl, hlotokens_37, hhitokens_37⟩ := hv_35
                        refine va_callv (A0 := jA base) (H0 := s.heap) (va_runV (As := [.int 0, .int 0]) (rest := []) ⟨hx, hb, hml, hown, hts⟩ (uX10_add l dC dI ca base B hB hAp hB12 hB101 G0 H_11 r0 0 0 tokens_37) (cwV 2 hts (jgV (jWr_37 _ (List.mem_of_getElem? (i := 7) rfl)) (jWr_37 _ (List.mem_of_getElem? (i := 8) rfl)) (jWr_37 _ (List.mem_of_getElem? (i := 9) rfl)) (jWr_4 _ (List.mem_of_getElem? (i := 14) rfl)) (jWr_37 _ (List.mem_of_getElem? (i := 10) rfl))) rfl rfl rfl (by decide +kernel) ⟨by rw [← hR]; exact Nat.le_of_ble_eq_true rfl, by rw [← hR]; exact Nat.le_of_ble_eq_true rfl⟩) ⟨fun a U g mk q => by obtain ⟨q0, q1, q2, qK, q10, q11, q12⟩ := q; exact ⟨q0, q1, q2, jG.calling g mk a qK, q10, q11, q12⟩, hh_36.recv (C := RX10) (T := TX10) (N := 11) hB12 rfl (by decide) hg_r0 hK, fun U hU hW => ⟨rfl, hU, hh_36.2.1, hG.step hW hU hh_36.1, hg_r0, (hh_36.2.2.1.sub (L1 := [(r0, 12, 3, .int tokens_37)]) [0] rfl), by first | omega | (refine ⟨?_, ?_⟩ <;> (first | omega | rfl | assumption | decide | exact Or.inl rfl | exact Or.inr rfl | (simp only; omega)))⟩⟩ rfl rfl hl.1 rfl (lv_room (Nat.le_of_ble_eq_true rfl)) dX10_scan_223 ⟨Nat.zero_le _, Nat.zero_le _⟩) hh_36.1 (fun q _ h => h) (fun q h => h) (fun u_33 t_33 H_33 locs_33 ht_33 hvm_33 hr_34 hb_33 hz_33 hk_33 hS_33 => ?_)
                        obtain ⟨qk_33, rfl⟩ : ∃ z, z = u_33 := ⟨_, rfl⟩
                        rw [ht_33] at hb_33
                        obtain ⟨hb_331, hb_332, hb_333, hb_334, hb_335⟩ := hb_33
                        have hh_33 : jSt (dC, dI) B base G0 G0 EX10_scan s.heap 0 0 [(r0, 12, 3, .int qk_33)] [] [] H_33 locs_33 := ((hh_36.call hb_331 hb_332 hb_333 hb_334 hS_33 rfl (L1 := []) [] rfl rfl (M1 := []) [] rfl rfl (I1 := []) [] rfl rfl).more hb_335)
                        clear hh_36 ht_33 hvm_33 hz_33 hk_33 hS_33 hb_331 hb_332 hb_333 hb_334 hb_335
                        obtain ⟨hr_34_0, hr_34_1, hr_34_2⟩ := hr_34
                        exact C226 z_10 z_10 _ _ (hh_33.sub (L1 := []) [] rfl (M1 := []) [] rfl (I1 := []) [] rfl) (by first | omega | (refine ⟨?_, ?_⟩ <;> (first | omega | rfl | assumption | decide | exact Or.inl rfl | exact Or.inr rfl | (simp only; omega)))) _ (lv_sub hl [2, 3, 4, 5, 6, 7, 1, 1] rfl)
                      · skip
                        exact absurd c_32 (by decide)
                    · skip
                      have c_31' : z_30.toInt < 128 := jb_ge_n (rfl) ((by decide)) c_31
                      refine va_ldcS hx hb hown rstr66 dX10_scan_188 ?_
                      refine lv_aload_n hx hb dX10_scan_190 rfl (lv_at hl 2 rfl) ?_
                      refine lv_iload hx hb dX10_scan_191 (lv_at hl 6 rfl) ?_
                      refine j7_iald hx hb hK hh_11 hB101 1 rfl (by decide) hg_r1 (x := v5_5.toInt) (rfl) (by omega) dX10_scan_193 (fun z_38 (hz_38 : True) => ?_)
                      refine lv_i2c hx hb dX10_scan_194 rfl ?_
                      refine lv_topi (fun z_39 ez_39 => ?_)
                      refine vp_callSi (W.runV (As := [.int z_39]) (rest := []) ⟨hx, hb, hml, hown, hts⟩ (wJ0_indexOf_0f7a4 l dC dI ca base H_11 str66 8 z_39) (cwV 1 hts (jgV (jWr_37 _ (List.mem_of_getElem? (i := 11) rfl)) (jWr_37 _ (List.mem_of_getElem? (i := 12) rfl)) (jWr_37 _ (List.mem_of_getElem? (i := 13) rfl)) (jWr_5 _ (List.mem_of_getElem? (i := 15) rfl)) (jWr_37 _ (List.mem_of_getElem? (i := 14) rfl))) rfl rfl rfl (by decide +kernel) ⟨by rw [← hR]; exact Nat.le_of_ble_eq_true rfl, by rw [← hR]; exact Nat.le_of_ble_eq_true rfl⟩) ⟨fun a U g mk q => by obtain ⟨q0, q1, q2, qK, q9⟩ := q; exact ⟨q0, q1, (q2.moved (Vm.Alike.refl U.vm)), jG.calling g mk a qK, q9⟩, jStr_recv hstr66 hh_11.1, fun U hU hW => ⟨rfl, hU, (hstr66.moved hW.alike).kept hh_11.1.2.1, hG.step hW hU hh_11.1, by omega⟩⟩ rfl rfl hl.1 rfl (lv_room (Nat.le_of_ble_eq_true rfl)) dX10_scan_195 ⟨Nat.zero_le _, Nat.zero_le _⟩) (fun r_40 hr_40 => ?_)
                      refine lv_if_lt (tgt := 205) hx hb dX10_scan_198 (by decide) (fun c_41 => ?_) (fun c_41 => ?_)
                      · skip
                        have c_41' : r_40.toInt < 0 := jb_lt (rfl) ((by decide)) c_41
                        refine lv_iconst (v := 0) hx hb dX10_scan_205 (by decide) ?_
                        refine lv_istore (lv' := [(7, .int 0), (6, .int z_10), (0, .ref r0), (1, .ref r1), (2, .int a2), (3, .int a3), (4, .int z_3), (5, .int v5_5)]) hx hb dX10_scan_206 hl (by decide) rfl (fun ls hl => ?_)
                        refine lv_aload_n hx hb dX10_scan_208 rfl (lv_at hl 2 rfl) ?_
                        refine lv_iload hx hb dX10_scan_209 (lv_at hl 0 rfl) ?_
                        refine lv_if_eq (tgt := 221) hx hb dX10_scan_211 (by decide) (fun c_42 => ?_) (fun c_42 => ?_)
                        · skip
                          refine lv_iconst (v := 0) hx hb dX10_scan_221 (by decide) ?_
                          refine lv_iconst (v := 0) hx hb dX10_scan_222 (by decide) ?_
                          obtain ⟨v_45, hv_45, hh_46⟩ := hh_11.pin (C := RX10) (T := TX10) (N := 11) hB12 rfl (by decide) hg_r0 (i := 3) (by decide) rfl
                          obtain ⟨tokens_47, rfl, hlotokens_47, hhitokens_47⟩ := hv_45
                          refine va_callv (A0 := jA base) (H0 := s.heap) (va_runV (As := [.int 0, .int 0]) (rest := []) ⟨hx, hb, hml, hown, hts⟩ (uX10_add l dC dI ca base B hB hAp hB12 hB101 G0 H_11 r0 0 0 tokens_47) (cwV 2 hts (jgV (jWr_37 _ (List.mem_of_getElem? (i := 7) rfl)) (jWr_37 _ (List.mem_of_getElem? (i := 8) rfl)) (jWr_37 _ (List.mem_of_getElem? (i := 9) rfl)) (jWr_4 _ (List.mem_of_getElem? (i := 14) rfl)) (jWr_37 _ (List.mem_of_getElem? (i := 10) rfl))) rfl rfl rfl (by decide +kernel) ⟨by rw [← hR]; exact Nat.le_of_ble_eq_true rfl, by rw [← hR]; exact Nat.le_of_ble_eq_true rfl⟩) ⟨fun a U g mk q => by obtain ⟨q0, q1, q2, qK, q10, q11, q12⟩ := q; exact ⟨q0, q1, q2, jG.calling g mk a qK, q10, q11, q12⟩, hh_46.recv (C := RX10) (T := TX10) (N := 11) hB12 rfl (by decide) hg_r0 hK, fun U hU hW => ⟨rfl, hU, hh_46.2.1, hG.step hW hU hh_46.1, hg_r0, (hh_46.2.2.1.sub (L1 := [(r0, 12, 3, .int tokens_47)]) [0] rfl), by first | omega | (refine ⟨?_, ?_⟩ <;> (first | omega | rfl | assumption | decide | exact Or.inl rfl | exact Or.inr rfl | (simp only; omega)))⟩⟩ rfl rfl hl.1 rfl (lv_room (Nat.le_of_ble_eq_true rfl)) dX10_scan_223 ⟨Nat.zero_le _, Nat.zero_le _⟩) hh_46.1 (fun q _ h => h) (fun q h => h) (fun u_43 t_43 H_43 locs_43 ht_43 hvm_43 hr_44 hb_43 hz_43 hk_43 hS_43 => ?_)
                          obtain ⟨qk_43, rfl⟩ : ∃ z, z = u_43 := ⟨_, rfl⟩
                          rw [ht_43] at hb_43
                          obtain ⟨hb_431, hb_432, hb_433, hb_434, hb_435⟩ := hb_43
                          have hh_43 : jSt (dC, dI) B base G0 G0 EX10_scan s.heap 0 0 [(r0, 12, 3, .int qk_43)] [] [] H_43 locs_43 := ((hh_46.call hb_431 hb_432 hb_433 hb_434 hS_43 rfl (L1 := []) [] rfl rfl (M1 := []) [] rfl rfl (I1 := []) [] rfl rfl).more hb_435)
                          clear hh_46 ht_43 hvm_43 hz_43 hk_43 hS_43 hb_431 hb_432 hb_433 hb_434 hb_435
                          obtain ⟨hr_44_0, hr_44_1, hr_44_2⟩ := hr_44
                          exact C226 z_10 z_10 _ _ (hh_43.sub (L1 := []) [] rfl (M1 := []) [] rfl (I1 := []) [] rfl) (by first | omega | (refine ⟨?_, ?_⟩ <;> (first | omega | rfl | assumption | decide | exact Or.inl rfl | exact Or.inr rfl | (simp only; omega)))) _ (lv_sub hl [2, 3, 4, 5, 6, 7, 1, 1] rfl)
                        · skip
                          exact absurd c_42 (by decide)
                      · skip
                        have c_41' : r_40.toInt ≥ 0 := jb_lt_n (rfl) ((by decide)) c_41
                        refine lv_iconst (v := 1) hx hb dX10_scan_201 (by decide) ?_
                        refine lv_goto (tgt := 206) hx hb dX10_scan_202 (by decide) ?_
                        refine lv_istore (lv' := [(7, .int 1), (6, .int z_10), (0, .ref r0), (1, .ref r1), (2, .int a2), (3, .int a3), (4, .int z_3), (5, .int v5_5)]) hx hb dX10_scan_206 hl (by decide) rfl (fun ls hl => ?_)
                        refine lv_aload_n hx hb dX10_scan_208 rfl (lv_at hl 2 rfl) ?_
                        refine lv_iload hx hb dX10_scan_209 (lv_at hl 0 rfl) ?_
                        refine lv_if_eq (tgt := 221) hx hb dX10_scan_211 (by decide) (fun c_48 => ?_) (fun c_48 => ?_)
                        · skip
                          exact absurd c_48 (by decide)
                        · skip
                          refine lv_aload_n hx hb dX10_scan_214 rfl (lv_at hl 3 rfl) ?_
                          refine lv_iload hx hb dX10_scan_215 (lv_at hl 7 rfl) ?_
                          refine j7_iald hx hb hK hh_11 hB101 1 rfl (by decide) hg_r1 (x := v5_5.toInt) (rfl) (by omega) dX10_scan_217 (fun z_49 (hz_49 : True) => ?_)
                          refine lv_goto (tgt := 222) hx hb dX10_scan_218 (by decide) ?_
                          refine lv_iconst (v := 0) hx hb dX10_scan_222 (by decide) ?_
                          obtain ⟨v_52, hv_52, hh_53⟩ := hh_11.pin (C := RX10) (T := TX10) (N := 11) hB12 rfl (by decide) hg_r0 (i := 3) (by decide) rfl
                          obtain ⟨tokens_54, rfl, hlotokens_54, hhitokens_54⟩ := hv_52
                          refine va_callv (A0 := jA base) (H0 := s.heap) (va_runV (As := [.int z_49, .int 0]) (rest := []) ⟨hx, hb, hml, hown, hts⟩ (uX10_add l dC dI ca base B hB hAp hB12 hB101 G0 H_11 r0 z_49 0 tokens_54) (cwV 2 hts (jgV (jWr_37 _ (List.mem_of_getElem? (i := 7) rfl)) (jWr_37 _ (List.mem_of_getElem? (i := 8) rfl)) (jWr_37 _ (List.mem_of_getElem? (i := 9) rfl)) (jWr_4 _ (List.mem_of_getElem? (i := 14) rfl)) (jWr_37 _ (List.mem_of_getElem? (i := 10) rfl))) rfl rfl rfl (by decide +kernel) ⟨by rw [← hR]; exact Nat.le_of_ble_eq_true rfl, by rw [← hR]; exact Nat.le_of_ble_eq_true rfl⟩) ⟨fun a U g mk q => by obtain ⟨q0, q1, q2, qK, q10, q11, q12⟩ := q; exact ⟨q0, q1, q2, jG.calling g mk a qK, q10, q11, q12⟩, hh_53.recv (C := RX10) (T := TX10) (N := 11) hB12 rfl (by decide) hg_r0 hK, fun U hU hW => ⟨rfl, hU, hh_53.2.1, hG.step hW hU hh_53.1, hg_r0, (hh_53.2.2.1.sub (L1 := [(r0, 12, 3, .int tokens_54)]) [0] rfl), by first | omega | (refine ⟨?_, ?_⟩ <;> (first | omega | rfl | assumption | decide | exact Or.inl rfl | exact Or.inr rfl | (simp only; omega)))⟩⟩ rfl rfl hl.1 rfl (lv_room (Nat.le_of_ble_eq_true rfl)) dX10_scan_223 ⟨Nat.zero_le _, Nat.zero_le _⟩) hh_53.1 (fun q _ h => h) (fun q h => h) (fun u_50 t_50 H_50 locs_50 ht_50 hvm_50 hr_51 hb_50 hz_50 hk_50 hS_50 => ?_)
                          obtain ⟨qk_50, rfl⟩ : ∃ z, z = u_50 := ⟨_, rfl⟩
                          rw [ht_50] at hb_50
                          obtain ⟨hb_501, hb_502, hb_503, hb_504, hb_505⟩ := hb_50
                          have hh_50 : jSt (dC, dI) B base G0 G0 EX10_scan s.heap 0 0 [(r0, 12, 3, .int qk_50)] [] [] H_50 locs_50 := ((hh_53.call hb_501 hb_502 hb_503 hb_504 hS_50 rfl (L1 := []) [] rfl rfl (M1 := []) [] rfl rfl (I1 := []) [] rfl rfl).more hb_505)
                          clear hh_53 ht_50 hvm_50 hz_50 hk_50 hS_50 hb_501 hb_502 hb_503 hb_504 hb_505
                          obtain ⟨hr_51_0, hr_51_1, hr_51_2⟩ := hr_51
                          exact C226 z_10 z_10 _ _ (hh_50.sub (L1 := []) [] rfl (M1 := []) [] rfl (I1 := []) [] rfl) (by first | omega | (refine ⟨?_, ?_⟩ <;> (first | omega | rfl | assumption | decide | exact Or.inl rfl | exact Or.inr rfl | (simp only; omega)))) _ (lv_sub hl [2, 3, 4, 5, 6, 7, 1, 1] rfl)
                  · skip
                    have c_29' : z_28.toInt = 46 := jb_ne_n (rfl) ((by decide)) c_29
                    refine lv_iload hx hb dX10_scan_171 (lv_at hl 0 rfl) ?_
                    refine lv_iload hx hb dX10_scan_173 (lv_at hl 5 rfl) ?_
                    refine lv_icmp_eq (tgt := 201) hx hb dX10_scan_175 (by decide) (fun c_55 => ?_) (fun c_55 => ?_)
                    · skip
                      have c_55' : z_10.toInt = z_3.toInt := jb_eq (rfl) (rfl) c_55
                      refine lv_iconst (v := 1) hx hb dX10_scan_201 (by decide) ?_
                      refine lv_goto (tgt := 206) hx hb dX10_scan_202 (by decide) ?_
                      refine lv_istore (lv' := [(7, .int 1), (6, .int z_10), (0, .ref r0), (1, .ref r1), (2, .int a2), (3, .int a3), (4, .int z_3), (5, .int v5_5)]) hx hb dX10_scan_206 hl (by decide) rfl (fun ls hl => ?_)
                      refine lv_aload_n hx hb dX10_scan_208 rfl (lv_at hl 2 rfl) ?_
                      refine lv_iload hx hb dX10_scan_209 (lv_at hl 0 rfl) ?_
                      refine lv_if_eq (tgt := 221) hx hb dX10_scan_211 (by decide) (fun c_56 => ?_) (fun c_56 => ?_)
                      · skip
                        exact absurd c_56 (by decide)
                      · skip
                        refine lv_aload_n hx hb dX10_scan_214 rfl (lv_at hl 3 rfl) ?_
                        refine lv_iload hx hb dX10_scan_215 (lv_at hl 7 rfl) ?_
                        refine j7_iald hx hb hK hh_11 hB101 1 rfl (by decide) hg_r1 (x := v5_5.toInt) (rfl) (by omega) dX10_scan_217 (fun z_57 (hz_57 : True) => ?_)
                        refine lv_goto (tgt := 222) hx hb dX10_scan_218 (by decide) ?_
                        refine lv_iconst (v := 0) hx hb dX10_scan_222 (by decide) ?_
                        obtain ⟨v_60, hv_60, hh_61⟩ := hh_11.pin (C := RX10) (T := TX10) (N := 11) hB12 rfl (by decide) hg_r0 (i := 3) (by decide) rfl
                        obtain ⟨tokens_62, rfl, hlotokens_62, hhitokens_62⟩ := hv_60
                        refine va_callv (A0 := jA base) (H0 := s.heap) (va_runV (As := [.int z_57, .int 0]) (rest := []) ⟨hx, hb, hml, hown, hts⟩ (uX10_add l dC dI ca base B hB hAp hB12 hB101 G0 H_11 r0 z_57 0 tokens_62) (cwV 2 hts (jgV (jWr_37 _ (List.mem_of_getElem? (i := 7) rfl)) (jWr_37 _ (List.mem_of_getElem? (i := 8) rfl)) (jWr_37 _ (List.mem_of_getElem? (i := 9) rfl)) (jWr_4 _ (List.mem_of_getElem? (i := 14) rfl)) (jWr_37 _ (List.mem_of_getElem? (i := 10) rfl))) rfl rfl rfl (by decide +kernel) ⟨by rw [← hR]; exact Nat.le_of_ble_eq_true rfl, by rw [← hR]; exact Nat.le_of_ble_eq_true rfl⟩) ⟨fun a U g mk q => by obtain ⟨q0, q1, q2, qK, q10, q11, q12⟩ := q; exact ⟨q0, q1, q2, jG.calling g mk a qK, q10, q11, q12⟩, hh_61.recv (C := RX10) (T := TX10) (N := 11) hB12 rfl (by decide) hg_r0 hK, fun U hU hW => ⟨rfl, hU, hh_61.2.1, hG.step hW hU hh_61.1, hg_r0, (hh_61.2.2.1.sub (L1 := [(r0, 12, 3, .int tokens_62)]) [0] rfl), by first | omega | (refine ⟨?_, ?_⟩ <;> (first | omega | rfl | assumption | decide | exact Or.inl rfl | exact Or.inr rfl | (simp only; omega)))⟩⟩ rfl rfl hl.1 rfl (lv_room (Nat.le_of_ble_eq_true rfl)) dX10_scan_223 ⟨Nat.zero_le _, Nat.zero_le _⟩) hh_61.1 (fun q _ h => h) (fun q h => h) (fun u_58 t_58 H_58 locs_58 ht_58 hvm_58 hr_59 hb_58 hz_58 hk_58 hS_58 => ?_)
                        obtain ⟨qk_58, rfl⟩ : ∃ z, z = u_58 := ⟨_, rfl⟩
                        rw [ht_58] at hb_58
                        obtain ⟨hb_581, hb_582, hb_583, hb_584, hb_585⟩ := hb_58
                        have hh_58 : jSt (dC, dI) B base G0 G0 EX10_scan s.heap 0 0 [(r0, 12, 3, .int qk_58)] [] [] H_58 locs_58 := ((hh_61.call hb_581 hb_582 hb_583 hb_584 hS_58 rfl (L1 := []) [] rfl rfl (M1 := []) [] rfl rfl (I1 := []) [] rfl rfl).more hb_585)
                        clear hh_61 ht_58 hvm_58 hz_58 hk_58 hS_58 hb_581 hb_582 hb_583 hb_584 hb_585
                        obtain ⟨hr_59_0, hr_59_1, hr_59_2⟩ := hr_59
                        exact C226 z_10 z_10 _ _ (hh_58.sub (L1 := []) [] rfl (M1 := []) [] rfl (I1 := []) [] rfl) (by first | omega | (refine ⟨?_, ?_⟩ <;> (first | omega | rfl | assumption | decide | exact Or.inl rfl | exact Or.inr rfl | (simp only; omega)))) _ (lv_sub hl [2, 3, 4, 5, 6, 7, 1, 1] rfl)
                    · skip
                      have c_55' : z_10.toInt ≠ z_3.toInt := jb_eq_n (rfl) (rfl) c_55
                      refine lv_aload_n hx hb dX10_scan_178 rfl (lv_at hl 2 rfl) ?_
                      refine lv_iload hx hb dX10_scan_179 (lv_at hl 6 rfl) ?_
                      refine j7_iald hx hb hK hh_11 hB101 1 rfl (by decide) hg_r1 (x := v5_5.toInt) (rfl) (by omega) dX10_scan_181 (fun z_63 (hz_63 : True) => ?_)
                      refine lv_sipush (v := 128) hx hb dX10_scan_182 (by decide) ?_
                      refine lv_icmp_ge (tgt := 205) hx hb dX10_scan_185 (by decide) (fun c_64 => ?_) (fun c_64 => ?_)
                      · skip
                        have c_64' : z_63.toInt ≥ 128 := jb_ge (rfl) ((by decide)) c_64
                        refine lv_iconst (v := 0) hx hb dX10_scan_205 (by decide) ?_
                        refine lv_istore (lv' := [(7, .int 0), (6, .int z_10), (0, .ref r0), (1, .ref r1), (2, .int a2), (3, .int a3), (4, .int z_3), (5, .int v5_5)]) hx hb dX10_scan_206 hl (by decide) rfl (fun ls hl => ?_)
                        refine lv_aload_n hx hb dX10_scan_208 rfl (lv_at hl 2 rfl) ?_
                        refine lv_iload hx hb dX10_scan_209 (lv_at hl 0 rfl) ?_
                        refine lv_if_eq (tgt := 221) hx hb dX10_scan_211 (by decide) (fun c_65 => ?_) (fun c_65 => ?_)
                        · skip
                          refine lv_iconst (v := 0) hx hb dX10_scan_221 (by decide) ?_
                          refine lv_iconst (v := 0) hx hb dX10_scan_222 (by decide) ?_
                          obtain ⟨v_68, hv_68, hh_69⟩ := hh_11.pin (C := RX10) (T := TX10) (N := 11) hB12 rfl (by decide) hg_r0 (i := 3) (by decide) rfl
                          obtain ⟨tokens_70, rfl, hlotokens_70, hhitokens_70⟩ := hv_68
                          refine va_callv (A0 := jA base) (H0 := s.heap) (va_runV (As := [.int 0, .int 0]) (rest := []) ⟨hx, hb, hml, hown, hts⟩ (uX10_add l dC dI ca base B hB hAp hB12 hB101 G0 H_11 r0 0 0 tokens_70) (cwV 2 hts (jgV (jWr_37 _ (List.mem_of_getElem? (i := 7) rfl)) (jWr_37 _ (List.mem_of_getElem? (i := 8) rfl)) (jWr_37 _ (List.mem_of_getElem? (i := 9) rfl)) (jWr_4 _ (List.mem_of_getElem? (i := 14) rfl)) (jWr_37 _ (List.mem_of_getElem? (i := 10) rfl))) rfl rfl rfl (by decide +kernel) ⟨by rw [← hR]; exact Nat.le_of_ble_eq_true rfl, by rw [← hR]; exact Nat.le_of_ble_eq_true rfl⟩) ⟨fun a U g mk q => by obtain ⟨q0, q1, q2, qK, q10, q11, q12⟩ := q; exact ⟨q0, q1, q2, jG.calling g mk a qK, q10, q11, q12⟩, hh_69.recv (C := RX10) (T := TX10) (N := 11) hB12 rfl (by decide) hg_r0 hK, fun U hU hW => ⟨rfl, hU, hh_69.2.1, hG.step hW hU hh_69.1, hg_r0, (hh_69.2.2.1.sub (L1 := [(r0, 12, 3, .int tokens_70)]) [0] rfl), by first | omega | (refine ⟨?_, ?_⟩ <;> (first | omega | rfl | assumption | decide | exact Or.inl rfl | exact Or.inr rfl | (simp only; omega)))⟩⟩ rfl rfl hl.1 rfl (lv_room (Nat.le_of_ble_eq_true rfl)) dX10_scan_223 ⟨Nat.zero_le _, Nat.zero_le _⟩) hh_69.1 (fun q _ h => h) (fun q h => h) (fun u_66 t_66 H_66 locs_66 ht_66 hvm_66 hr_67 hb_66 hz_66 hk_66 hS_66 => ?_)
                          obtain ⟨qk_66, rfl⟩ : ∃ z, z = u_66 := ⟨_, rfl⟩
                          rw [ht_66] at hb_66
                          obtain ⟨hb_661, hb_662, hb_663, hb_664, hb_665⟩ := hb_66
                          have hh_66 : jSt (dC, dI) B base G0 G0 EX10_scan s.heap 0 0 [(r0, 12, 3, .int qk_66)] [] [] H_66 locs_66 := ((hh_69.call hb_661 hb_662 hb_663 hb_664 hS_66 rfl (L1 := []) [] rfl rfl (M1 := []) [] rfl rfl (I1 := []) [] rfl rfl).more hb_665)
                          clear hh_69 ht_66 hvm_66 hz_66 hk_66 hS_66 hb_661 hb_662 hb_663 hb_664 hb_665
                          obtain ⟨hr_67_0, hr_67_1, hr_67_2⟩ := hr_67
                          exact C226 z_10 z_10 _ _ (hh_66.sub (L1 := []) [] rfl (M1 := []) [] rfl (I1 := []) [] rfl) (by first | omega | (refine ⟨?_, ?_⟩ <;> (first | omega | rfl | assumption | decide | exact Or.inl rfl | exact Or.inr rfl | (simp only; omega)))) _ (lv_sub hl [2, 3, 4, 5, 6, 7, 1, 1] rfl)
                        · skip
                          exact absurd c_65 (by decide)
                      · skip
                        have c_64' : z_63.toInt < 128 := jb_ge_n (rfl) ((by decide)) c_64
                        refine va_ldcS hx hb hown rstr66 dX10_scan_188 ?_
                        refine lv_aload_n hx hb dX10_scan_190 rfl (lv_at hl 2 rfl) ?_
                        refine lv_iload hx hb dX10_scan_191 (lv_at hl 6 rfl) ?_
                        refine j7_iald hx hb hK hh_11 hB101 1 rfl (by decide) hg_r1 (x := v5_5.toInt) (rfl) (by omega) dX10_scan_193 (fun z_71 (hz_71 : True) => ?_)
                        refine lv_i2c hx hb dX10_scan_194 rfl ?_
                        refine lv_topi (fun z_72 ez_72 => ?_)
                        refine vp_callSi (W.runV (As := [.int z_72]) (rest := []) ⟨hx, hb, hml, hown, hts⟩ (wJ0_indexOf_0f7a4 l dC dI ca base H_11 str66 8 z_72) (cwV 1 hts (jgV (jWr_37 _ (List.mem_of_getElem? (i := 11) rfl)) (jWr_37 _ (List.mem_of_getElem? (i := 12) rfl)) (jWr_37 _ (List.mem_of_getElem? (i := 13) rfl)) (jWr_5 _ (List.mem_of_getElem? (i := 15) rfl)) (jWr_37 _ (List.mem_of_getElem? (i := 14) rfl))) rfl rfl rfl (by decide +kernel) ⟨by rw [← hR]; exact Nat.le_of_ble_eq_true rfl, by rw [← hR]; exact Nat.le_of_ble_eq_true rfl⟩) ⟨fun a U g mk q => by obtain ⟨q0, q1, q2, qK, q9⟩ := q; exact ⟨q0, q1, (q2.moved (Vm.Alike.refl U.vm)), jG.calling g mk a qK, q9⟩, jStr_recv hstr66 hh_11.1, fun U hU hW => ⟨rfl, hU, (hstr66.moved hW.alike).kept hh_11.1.2.1, hG.step hW hU hh_11.1, by omega⟩⟩ rfl rfl hl.1 rfl (lv_room (Nat.le_of_ble_eq_true rfl)) dX10_scan_195 ⟨Nat.zero_le _, Nat.zero_le _⟩) (fun r_73 hr_73 => ?_)
                        refine lv_if_lt (tgt := 205) hx hb dX10_scan_198 (by decide) (fun c_74 => ?_) (fun c_74 => ?_)
                        · skip
                          have c_74' : r_73.toInt < 0 := jb_lt (rfl) ((by decide)) c_74
                          refine lv_iconst (v := 0) hx hb dX10_scan_205 (by decide) ?_
                          refine lv_istore (lv' := [(7, .int 0), (6, .int z_10), (0, .ref r0), (1, .ref r1), (2, .int a2), (3, .int a3), (4, .int z_3), (5, .int v5_5)]) hx hb dX10_scan_206 hl (by decide) rfl (fun ls hl => ?_)
                          refine lv_aload_n hx hb dX10_scan_208 rfl (lv_at hl 2 rfl) ?_
                          refine lv_iload hx hb dX10_scan_209 (lv_at hl 0 rfl) ?_
                          refine lv_if_eq (tgt := 221) hx hb dX10_scan_211 (by decide) (fun c_75 => ?_) (fun c_75 => ?_)
                          · skip
                            refine lv_iconst (v := 0) hx hb dX10_scan_221 (by decide) ?_
                            refine lv_iconst (v := 0) hx hb dX10_scan_222 (by decide) ?_
                            obtain ⟨v_78, hv_78, hh_79⟩ := hh_11.pin (C := RX10) (T := TX10) (N := 11) hB12 rfl (by decide) hg_r0 (i := 3) (by decide) rfl
                            obtain ⟨tokens_80, rfl, hlotokens_80, hhitokens_80⟩ := hv_78
                            refine va_callv (A0 := jA base) (H0 := s.heap) (va_runV (As := [.int 0, .int 0]) (rest := []) ⟨hx, hb, hml, hown, hts⟩ (uX10_add l dC dI ca base B hB hAp hB12 hB101 G0 H_11 r0 0 0 tokens_80) (cwV 2 hts (jgV (jWr_37 _ (List.mem_of_getElem? (i := 7) rfl)) (jWr_37 _ (List.mem_of_getElem? (i := 8) rfl)) (jWr_37 _ (List.mem_of_getElem? (i := 9) rfl)) (jWr_4 _ (List.mem_of_getElem? (i := 14) rfl)) (jWr_37 _ (List.mem_of_getElem? (i := 10) rfl))) rfl rfl rfl (by decide +kernel) ⟨by rw [← hR]; exact Nat.le_of_ble_eq_true rfl, by rw [← hR]; exact Nat.le_of_ble_eq_true rfl⟩) ⟨fun a U g mk q => by obtain ⟨q0, q1, q2, qK, q10, q11, q12⟩ := q; exact ⟨q0, q1, q2, jG.calling g mk a qK, q10, q11, q12⟩, hh_79.recv (C := RX10) (T := TX10) (N := 11) hB12 rfl (by decide) hg_r0 hK, fun U hU hW => ⟨rfl, hU, hh_79.2.1, hG.step hW hU hh_79.1, hg_r0, (hh_79.2.2.1.sub (L1 := [(r0, 12, 3, .int tokens_80)]) [0] rfl), by first | omega | (refine ⟨?_, ?_⟩ <;> (first | omega | rfl | assumption | decide | exact Or.inl rfl | exact Or.inr rfl | (simp only; omega)))⟩⟩ rfl rfl hl.1 rfl (lv_room (Nat.le_of_ble_eq_true rfl)) dX10_scan_223 ⟨Nat.zero_le _, Nat.zero_le _⟩) hh_79.1 (fun q _ h => h) (fun q h => h) (fun u_76 t_76 H_76 locs_76 ht_76 hvm_76 hr_77 hb_76 hz_76 hk_76 hS_76 => ?_)
                            obtain ⟨qk_76, rfl⟩ : ∃ z, z = u_76 := ⟨_, rfl⟩
                            rw [ht_76] at hb_76
                            obtain ⟨hb_761, hb_762, hb_763, hb_764, hb_765⟩ := hb_76
                            have hh_76 : jSt (dC, dI) B base G0 G0 EX10_scan s.heap 0 0 [(r0, 12, 3, .int qk_76)] [] [] H_76 locs_76 := ((hh_79.call hb_761 hb_762 hb_763 hb_764 hS_76 rfl (L1 := []) [] rfl rfl (M1 := []) [] rfl rfl (I1 := []) [] rfl rfl).more hb_765)
                            clear hh_79 ht_76 hvm_76 hz_76 hk_76 hS_76 hb_761 hb_762 hb_763 hb_764 hb_765
                            obtain ⟨hr_77_0, hr_77_1, hr_77_2⟩ := hr_77
                            exact C226 z_10 z_10 _ _ (hh_76.sub (L1 := []) [] rfl (M1 := []) [] rfl (I1 := []) [] rfl) (by first | omega | (refine ⟨?_, ?_⟩ <;> (first | omega | rfl | assumption | decide | exact Or.inl rfl | exact Or.inr rfl | (simp only; omega)))) _ (lv_sub hl [2, 3, 4, 5, 6, 7, 1, 1] rfl)
                          · skip
                            exact absurd c_75 (by decide)
                        · skip
                          have c_74' : r_73.toInt ≥ 0 := jb_lt_n (rfl) ((by decide)) c_74
                          refine lv_iconst (v := 1) hx hb dX10_scan_201 (by decide) ?_
                          refine lv_goto (tgt := 206) hx hb dX10_scan_202 (by decide) ?_
                          refine lv_istore (lv' := [(7, .int 1), (6, .int z_10), (0, .ref r0), (1, .ref r1), (2, .int a2), (3, .int a3), (4, .int z_3), (5, .int v5_5)]) hx hb dX10_scan_206 hl (by decide) rfl (fun ls hl => ?_)
                          refine lv_aload_n hx hb dX10_scan_208 rfl (lv_at hl 2 rfl) ?_
                          refine lv_iload hx hb dX10_scan_209 (lv_at hl 0 rfl) ?_
                          refine lv_if_eq (tgt := 221) hx hb dX10_scan_211 (by decide) (fun c_81 => ?_) (fun c_81 => ?_)
                          · skip
                            exact absurd c_81 (by decide)
                          · skip
                            refine lv_aload_n hx hb dX10_scan_214 rfl (lv_at hl 3 rfl) ?_
                            refine lv_iload hx hb dX10_scan_215 (lv_at hl 7 rfl) ?_
                            refine j7_iald hx hb hK hh_11 hB101 1 rfl (by decide) hg_r1 (x := v5_5.toInt) (rfl) (by omega) dX10_scan_217 (fun z_82 (hz_82 : True) => ?_)
                            refine lv_goto (tgt := 222) hx hb dX10_scan_218 (by decide) ?_
                            refine lv_iconst (v := 0) hx hb dX10_scan_222 (by decide) ?_
                            obtain ⟨v_85, hv_85, hh_86⟩ := hh_11.pin (C := RX10) (T := TX10) (N := 11) hB12 rfl (by decide) hg_r0 (i := 3) (by decide) rfl
                            obtain ⟨tokens_87, rfl, hlotokens_87, hhitokens_87⟩ := hv_85
                            refine va_callv (A0 := jA base) (H0 := s.heap) (va_runV (As := [.int z_82, .int 0]) (rest := []) ⟨hx, hb, hml, hown, hts⟩ (uX10_add l dC dI ca base B hB hAp hB12 hB101 G0 H_11 r0 z_82 0 tokens_87) (cwV 2 hts (jgV (jWr_37 _ (List.mem_of_getElem? (i := 7) rfl)) (jWr_37 _ (List.mem_of_getElem? (i := 8) rfl)) (jWr_37 _ (List.mem_of_getElem? (i := 9) rfl)) (jWr_4 _ (List.mem_of_getElem? (i := 14) rfl)) (jWr_37 _ (List.mem_of_getElem? (i := 10) rfl))) rfl rfl rfl (by decide +kernel) ⟨by rw [← hR]; exact Nat.le_of_ble_eq_true rfl, by rw [← hR]; exact Nat.le_of_ble_eq_true rfl⟩) ⟨fun a U g mk q => by obtain ⟨q0, q1, q2, qK, q10, q11, q12⟩ := q; exact ⟨q0, q1, q2, jG.calling g mk a qK, q10, q11, q12⟩, hh_86.recv (C := RX10) (T := TX10) (N := 11) hB12 rfl (by decide) hg_r0 hK, fun U hU hW => ⟨rfl, hU, hh_86.2.1, hG.step hW hU hh_86.1, hg_r0, (hh_86.2.2.1.sub (L1 := [(r0, 12, 3, .int tokens_87)]) [0] rfl), by first | omega | (refine ⟨?_, ?_⟩ <;> (first | omega | rfl | assumption | decide | exact Or.inl rfl | exact Or.inr rfl | (simp only; omega)))⟩⟩ rfl rfl hl.1 rfl (lv_room (Nat.le_of_ble_eq_true rfl)) dX10_scan_223 ⟨Nat.zero_le _, Nat.zero_le _⟩) hh_86.1 (fun q _ h => h) (fun q h => h) (fun u_83 t_83 H_83 locs_83 ht_83 hvm_83 hr_84 hb_83 hz_83 hk_83 hS_83 => ?_)
                            obtain ⟨qk_83, rfl⟩ : ∃ z, z = u_83 := ⟨_, rfl⟩
                            rw [ht_83] at hb_83
                            obtain ⟨hb_831, hb_832, hb_833, hb_834, hb_835⟩ := hb_83
                            have hh_83 : jSt (dC, dI) B base G0 G0 EX10_scan s.heap 0 0 [(r0, 12, 3, .int qk_83)] [] [] H_83 locs_83 := ((hh_86.call hb_831 hb_832 hb_833 hb_834 hS_83 rfl (L1 := []) [] rfl rfl (M1 := []) [] rfl rfl (I1 := []) [] rfl rfl).more hb_835)
                            clear hh_86 ht_83 hvm_83 hz_83 hk_83 hS_83 hb_831 hb_832 hb_833 hb_834 hb_835
                            obtain ⟨hr_84_0, hr_84_1, hr_84_2⟩ := hr_84
                            exact C226 z_10 z_10 _ _ (hh_83.sub (L1 := []) [] rfl (M1 := []) [] rfl (I1 := []) [] rfl) (by first | omega | (refine ⟨?_, ?_⟩ <;> (first | omega | rfl | assumption | decide | exact Or.inl rfl | exact Or.inr rfl | (simp only; omega)))) _ (lv_sub hl [2, 3, 4, 5, 6, 7, 1, 1] rfl)
              · skip
                have c_24' : r_23.toInt ≠ 0 := jb_eq_n (rfl) ((by decide)) c_24
                refine lv_aload_n hx hb dX10_scan_136 rfl (lv_at hl 1 rfl) ?_
                refine lv_bipush (v := 100) hx hb dX10_scan_137 (by decide) ?_
                refine lv_aload_n hx hb dX10_scan_139 rfl (lv_at hl 2 rfl) ?_
                refine lv_iload hx hb dX10_scan_140 (lv_at hl 6 rfl) ?_
                refine j7_iald hx hb hK hh_11 hB101 1 rfl (by decide) hg_r1 (x := v5_5.toInt) (rfl) (by omega) dX10_scan_142 (fun z_88 (hz_88 : True) => ?_)
                refine lv_bipush (v := 48) hx hb dX10_scan_143 (by decide) ?_
                refine lv_isub hx hb dX10_scan_145 ?_
                refine lv_topi (fun z_89 ez_89 => ?_)
                obtain ⟨v_92, hv_92, hh_93⟩ := hh_11.pin (C := RX10) (T := TX10) (N := 11) hB12 rfl (by decide) hg_r0 (i := 3) (by decide) rfl
                obtain ⟨tokens_94, rfl, hlotokens_94, hhitokens_94⟩ := hv_92
                refine va_callv (A0 := jA base) (H0 := s.heap) (va_runV (As := [.int 100, .int z_89]) (rest := []) ⟨hx, hb, hml, hown, hts⟩ (uX10_add l dC dI ca base B hB hAp hB12 hB101 G0 H_11 r0 100 z_89 tokens_94) (cwV 2 hts (jgV (jWr_37 _ (List.mem_of_getElem? (i := 7) rfl)) (jWr_37 _ (List.mem_of_getElem? (i := 8) rfl)) (jWr_37 _ (List.mem_of_getElem? (i := 9) rfl)) (jWr_4 _ (List.mem_of_getElem? (i := 14) rfl)) (jWr_37 _ (List.mem_of_getElem? (i := 10) rfl))) rfl rfl rfl (by decide +kernel) ⟨by rw [← hR]; exact Nat.le_of_ble_eq_true rfl, by rw [← hR]; exact Nat.le_of_ble_eq_true rfl⟩) ⟨fun a U g mk q => by obtain ⟨q0, q1, q2, qK, q10, q11, q12⟩ := q; exact ⟨q0, q1, q2, jG.calling g mk a qK, q10, q11, q12⟩, hh_93.recv (C := RX10) (T := TX10) (N := 11) hB12 rfl (by decide) hg_r0 hK, fun U hU hW => ⟨rfl, hU, hh_93.2.1, hG.step hW hU hh_93.1, hg_r0, (hh_93.2.2.1.sub (L1 := [(r0, 12, 3, .int tokens_94)]) [0] rfl), by first | omega | (refine ⟨?_, ?_⟩ <;> (first | omega | rfl | assumption | decide | exact Or.inl rfl | exact Or.inr rfl | (simp only; omega)))⟩⟩ rfl rfl hl.1 rfl (lv_room (Nat.le_of_ble_eq_true rfl)) dX10_scan_146 ⟨Nat.zero_le _, Nat.zero_le _⟩) hh_93.1 (fun q _ h => h) (fun q h => h) (fun u_90 t_90 H_90 locs_90 ht_90 hvm_90 hr_91 hb_90 hz_90 hk_90 hS_90 => ?_)
                obtain ⟨qk_90, rfl⟩ : ∃ z, z = u_90 := ⟨_, rfl⟩
                rw [ht_90] at hb_90
                obtain ⟨hb_901, hb_902, hb_903, hb_904, hb_905⟩ := hb_90
                have hh_90 : jSt (dC, dI) B base G0 G0 EX10_scan s.heap 0 0 [(r0, 12, 3, .int qk_90)] [] [] H_90 locs_90 := ((hh_93.call hb_901 hb_902 hb_903 hb_904 hS_90 rfl (L1 := []) [] rfl rfl (M1 := []) [] rfl rfl (I1 := []) [] rfl rfl).more hb_905)
                clear hh_93 ht_90 hvm_90 hz_90 hk_90 hS_90 hb_901 hb_902 hb_903 hb_904 hb_905
                obtain ⟨hr_91_0, hr_91_1, hr_91_2⟩ := hr_91
                refine lv_goto (tgt := 226) hx hb dX10_scan_149 (by decide) ?_
                exact C226 z_10 z_10 _ _ (hh_90.sub (L1 := []) [] rfl (M1 := []) [] rfl (I1 := []) [] rfl) (by first | omega | (refine ⟨?_, ?_⟩ <;> (first | omega | rfl | assumption | decide | exact Or.inl rfl | exact Or.inr rfl | (simp only; omega)))) _ (lv_sub hl [1, 2, 3, 4, 5, 6, 0, 0] rfl)
            · skip
              have c_21' : z_20.toInt = 45 := jb_ne_n (rfl) ((by decide)) c_21
              refine lv_iload hx hb dX10_scan_90 (lv_at hl 6 rfl) ?_
              refine lv_iconst (v := 1) hx hb dX10_scan_92 (by decide) ?_
              refine lv_iadd hx hb dX10_scan_93 ?_
              refine lv_topi (fun z_95 ez_95 => ?_)
              have hz_95 : z_95.toInt = v5_5.toInt + 1 := by rw [ez_95]; exact jb_iadd2 (rfl) ((by decide)) (by omega)
              refine lv_iload hx hb dX10_scan_94 (lv_at hl 5 rfl) ?_
              refine lv_icmp_ge (tgt := 126) hx hb dX10_scan_96 (by decide) (fun c_96 => ?_) (fun c_96 => ?_)
              · skip
                have c_96' : z_95.toInt ≥ z_3.toInt := jb_ge (rfl) (rfl) c_96
                refine lv_aload_n hx hb dX10_scan_126 rfl (lv_at hl 2 rfl) ?_
                refine lv_iload hx hb dX10_scan_127 (lv_at hl 6 rfl) ?_
                refine j7_iald hx hb hK hh_11 hB101 1 rfl (by decide) hg_r1 (x := v5_5.toInt) (rfl) (by omega) dX10_scan_129 (fun z_97 (hz_97 : True) => ?_)
                refine vp_callSi (va_Run.run (va_runSN (As := [.int z_97]) (rest := []) ⟨hx, hb, hml, hown, hts⟩ (wX11_isDigit l dC dI ca base H_11 z_97) ⟨va_cnB 1 hts (jgW (jWr_22 _ (List.mem_of_getElem? (i := 15) rfl))) rfl rfl rfl (hG.2.2.1 RX10 60 yX11_isDigit "ProofServer" (List.mem_of_getElem? (i := 1150) (by decide +kernel))) (htw (.initialized RX11) (jWr_1 _ (List.mem_of_getElem? (i := 2) rfl))) (by decide +kernel) ⟨by rw [← hR]; exact Nat.le_of_ble_eq_true rfl, by rw [← hR]; exact Nat.le_of_ble_eq_true rfl⟩, htw (.static yX11_isDigit) (jWr_22 _ (List.mem_of_getElem? (i := 14) rfl)), trivial⟩ ⟨fun a U g mk q => by obtain ⟨q0, q1, qK, q9⟩ := q; exact ⟨q0, q1, jG.calling g mk a qK, q9⟩, fun U hU hW => ⟨rfl, hU, hG.step hW hU hh_11.1, by first | trivial | omega | (constructor <;> omega)⟩⟩ rfl rfl hl.1 rfl (lv_room (Nat.le_of_ble_eq_true rfl)) dX10_scan_130 ⟨Nat.zero_le _, Nat.zero_le _⟩)) (fun r_98 hr_98 => ?_)
                have hr_98' : r_98.toInt = 0 ∨ r_98.toInt = 1 := jb_01 hr_98
                refine lv_if_eq (tgt := 152) hx hb dX10_scan_133 (by decide) (fun c_99 => ?_) (fun c_99 => ?_)
                · skip
                  have c_99' : r_98.toInt = 0 := jb_eq (rfl) ((by decide)) c_99
                  refine lv_aload_n hx hb dX10_scan_152 rfl (lv_at hl 2 rfl) ?_
                  refine lv_iload hx hb dX10_scan_153 (lv_at hl 6 rfl) ?_
                  refine j7_iald hx hb hK hh_11 hB101 1 rfl (by decide) hg_r1 (x := v5_5.toInt) (rfl) (by omega) dX10_scan_155 (fun z_100 (hz_100 : True) => ?_)
                  refine vp_callSi (va_Run.run (va_runSN (As := [.int z_100]) (rest := []) ⟨hx, hb, hml, hown, hts⟩ (wX11_isBlank l dC dI ca base H_11 z_100) ⟨va_cnB 1 hts (jgW (jWr_20 _ (List.mem_of_getElem? (i := 0) rfl))) rfl rfl rfl (hG.2.2.1 RX10 63 yX11_isBlank "ProofServer" (List.mem_of_getElem? (i := 1151) (by decide +kernel))) (htw (.initialized RX11) (jWr_1 _ (List.mem_of_getElem? (i := 2) rfl))) (by decide +kernel) ⟨by rw [← hR]; exact Nat.le_of_ble_eq_true rfl, by rw [← hR]; exact Nat.le_of_ble_eq_true rfl⟩, htw (.static yX11_isBlank) (jWr_19 _ (List.mem_of_getElem? (i := 23) rfl)), trivial⟩ ⟨fun a U g mk q => by obtain ⟨q0, q1, qK, q9⟩ := q; exact ⟨q0, q1, jG.calling g mk a qK, q9⟩, fun U hU hW => ⟨rfl, hU, hG.step hW hU hh_11.1, by first | trivial | omega | (constructor <;> omega)⟩⟩ rfl rfl hl.1 rfl (lv_room (Nat.le_of_ble_eq_true rfl)) dX10_scan_156 ⟨Nat.zero_le _, Nat.zero_le _⟩)) (fun r_101 hr_101 => ?_)
                  have hr_101' : r_101.toInt = 0 ∨ r_101.toInt = 1 := jb_01 hr_101
                  refine lv_if_ne (tgt := 226) hx hb dX10_scan_159 (by decide) (fun c_102 => ?_) (fun c_102 => ?_)
                  · skip
                    have c_102' : r_101.toInt ≠ 0 := jb_ne (rfl) ((by decide)) c_102
                    exact C226 z_10 z_10 _ _ hh_11 (by first | omega | (refine ⟨?_, ?_⟩ <;> (first | omega | rfl | assumption | decide | exact Or.inl rfl | exact Or.inr rfl | (simp only; omega)))) _ (lv_sub hl [1, 2, 3, 4, 5, 6, 0, 0] rfl)
                  · skip
                    have c_102' : r_101.toInt = 0 := jb_ne_n (rfl) ((by decide)) c_102
                    refine lv_aload_n hx hb dX10_scan_162 rfl (lv_at hl 2 rfl) ?_
                    refine lv_iload hx hb dX10_scan_163 (lv_at hl 6 rfl) ?_
                    refine j7_iald hx hb hK hh_11 hB101 1 rfl (by decide) hg_r1 (x := v5_5.toInt) (rfl) (by omega) dX10_scan_165 (fun z_103 (hz_103 : True) => ?_)
                    refine lv_bipush (v := 46) hx hb dX10_scan_166 (by decide) ?_
                    refine lv_icmp_ne (tgt := 178) hx hb dX10_scan_168 (by decide) (fun c_104 => ?_) (fun c_104 => ?_)
                    · skip
                      have c_104' : z_103.toInt ≠ 46 := jb_ne (rfl) ((by decide)) c_104
                      refine lv_aload_n hx hb dX10_scan_178 rfl (lv_at hl 2 rfl) ?_
                      refine lv_iload hx hb dX10_scan_179 (lv_at hl 6 rfl) ?_
                      refine j7_iald hx hb hK hh_11 hB101 1 rfl (by decide) hg_r1 (x := v5_5.toInt) (rfl) (by omega) dX10_scan_181 (fun z_105 (hz_105 : True) => ?_)
                      refine lv_sipush (v := 128) hx hb dX10_scan_182 (by decide) ?_
                      refine lv_icmp_ge (tgt := 205) hx hb dX10_scan_185 (by decide) (fun c_106 => ?_) (fun c_106 => ?_)
                      · skip
                        have c_106' : z_105.toInt ≥ 128 := jb_ge (rfl) ((by decide)) c_106
                        refine lv_iconst (v := 0) hx hb dX10_scan_205 (by decide) ?_
                        refine lv_istore (lv' := [(7, .int 0), (6, .int z_10), (0, .ref r0), (1, .ref r1), (2, .int a2), (3, .int a3), (4, .int z_3), (5, .int v5_5)]) hx hb dX10_scan_206 hl (by decide) rfl (fun ls hl => ?_)
                        refine lv_aload_n hx hb dX10_scan_208 rfl (lv_at hl 2 rfl) ?_
                        refine lv_iload hx hb dX10_scan_209 (lv_at hl 0 rfl) ?_
                        refine lv_if_eq (tgt := 221) hx hb dX10_scan_211 (by decide) (fun c_107 => ?_) (fun c_107 => ?_)
                        · skip
                          refine lv_iconst (v := 0) hx hb dX10_scan_221 (by decide) ?_
                          refine lv_iconst (v := 0) hx hb dX10_scan_222 (by decide) ?_
                          obtain ⟨v_110, hv_110, hh_111⟩ := hh_11.pin (C := RX10) (T := TX10) (N := 11) hB12 rfl (by decide) hg_r0 (i := 3) (by decide) rfl
                          obtain ⟨tokens_112, rfl, hlotokens_112, hhitokens_112⟩ := hv_110
                          refine va_callv (A0 := jA base) (H0 := s.heap) (va_runV (As := [.int 0, .int 0]) (rest := []) ⟨hx, hb, hml, hown, hts⟩ (uX10_add l dC dI ca base B hB hAp hB12 hB101 G0 H_11 r0 0 0 tokens_112) (cwV 2 hts (jgV (jWr_37 _ (List.mem_of_getElem? (i := 7) rfl)) (jWr_37 _ (List.mem_of_getElem? (i := 8) rfl)) (jWr_37 _ (List.mem_of_getElem? (i := 9) rfl)) (jWr_4 _ (List.mem_of_getElem? (i := 14) rfl)) (jWr_37 _ (List.mem_of_getElem? (i := 10) rfl))) rfl rfl rfl (by decide +kernel) ⟨by rw [← hR]; exact Nat.le_of_ble_eq_true rfl, by rw [← hR]; exact Nat.le_of_ble_eq_true rfl⟩) ⟨fun a U g mk q => by obtain ⟨q0, q1, q2, qK, q10, q11, q12⟩ := q; exact ⟨q0, q1, q2, jG.calling g mk a qK, q10, q11, q12⟩, hh_111.recv (C := RX10) (T := TX10) (N := 11) hB12 rfl (by decide) hg_r0 hK, fun U hU hW => ⟨rfl, hU, hh_111.2.1, hG.step hW hU hh_111.1, hg_r0, (hh_111.2.2.1.sub (L1 := [(r0, 12, 3, .int tokens_112)]) [0] rfl), by first | omega | (refine ⟨?_, ?_⟩ <;> (first | omega | rfl | assumption | decide | exact Or.inl rfl | exact Or.inr rfl | (simp only; omega)))⟩⟩ rfl rfl hl.1 rfl (lv_room (Nat.le_of_ble_eq_true rfl)) dX10_scan_223 ⟨Nat.zero_le _, Nat.zero_le _⟩) hh_111.1 (fun q _ h => h) (fun q h => h) (fun u_108 t_108 H_108 locs_108 ht_108 hvm_108 hr_109 hb_108 hz_108 hk_108 hS_108 => ?_)
                          obtain ⟨qk_108, rfl⟩ : ∃ z, z = u_108 := ⟨_, rfl⟩
                          rw [ht_108] at hb_108
                          obtain ⟨hb_1081, hb_1082, hb_1083, hb_1084, hb_1085⟩ := hb_108
                          have hh_108 : jSt (dC, dI) B base G0 G0 EX10_scan s.heap 0 0 [(r0, 12, 3, .int qk_108)] [] [] H_108 locs_108 := ((hh_111.call hb_1081 hb_1082 hb_1083 hb_1084 hS_108 rfl (L1 := []) [] rfl rfl (M1 := []) [] rfl rfl (I1 := []) [] rfl rfl).more hb_1085)
                          clear hh_111 ht_108 hvm_108 hz_108 hk_108 hS_108 hb_1081 hb_1082 hb_1083 hb_1084 hb_1085
                          obtain ⟨hr_109_0, hr_109_1, hr_109_2⟩ := hr_109
                          exact C226 z_10 z_10 _ _ (hh_108.sub (L1 := []) [] rfl (M1 := []) [] rfl (I1 := []) [] rfl) (by first | omega | (refine ⟨?_, ?_⟩ <;> (first | omega | rfl | assumption | decide | exact Or.inl rfl | exact Or.inr rfl | (simp only; omega)))) _ (lv_sub hl [2, 3, 4, 5, 6, 7, 1, 1] rfl)
                        · skip
                          exact absurd c_107 (by decide)
                      · skip
                        have c_106' : z_105.toInt < 128 := jb_ge_n (rfl) ((by decide)) c_106
                        refine va_ldcS hx hb hown rstr66 dX10_scan_188 ?_
                        refine lv_aload_n hx hb dX10_scan_190 rfl (lv_at hl 2 rfl) ?_
                        refine lv_iload hx hb dX10_scan_191 (lv_at hl 6 rfl) ?_
                        refine j7_iald hx hb hK hh_11 hB101 1 rfl (by decide) hg_r1 (x := v5_5.toInt) (rfl) (by omega) dX10_scan_193 (fun z_113 (hz_113 : True) => ?_)
                        refine lv_i2c hx hb dX10_scan_194 rfl ?_
                        refine lv_topi (fun z_114 ez_114 => ?_)
                        refine vp_callSi (W.runV (As := [.int z_114]) (rest := []) ⟨hx, hb, hml, hown, hts⟩ (wJ0_indexOf_0f7a4 l dC dI ca base H_11 str66 8 z_114) (cwV 1 hts (jgV (jWr_37 _ (List.mem_of_getElem? (i := 11) rfl)) (jWr_37 _ (List.mem_of_getElem? (i := 12) rfl)) (jWr_37 _ (List.mem_of_getElem? (i := 13) rfl)) (jWr_5 _ (List.mem_of_getElem? (i := 15) rfl)) (jWr_37 _ (List.mem_of_getElem? (i := 14) rfl))) rfl rfl rfl (by decide +kernel) ⟨by rw [← hR]; exact Nat.le_of_ble_eq_true rfl, by rw [← hR]; exact Nat.le_of_ble_eq_true rfl⟩) ⟨fun a U g mk q => by obtain ⟨q0, q1, q2, qK, q9⟩ := q; exact ⟨q0, q1, (q2.moved (Vm.Alike.refl U.vm)), jG.calling g mk a qK, q9⟩, jStr_recv hstr66 hh_11.1, fun U hU hW => ⟨rfl, hU, (hstr66.moved hW.alike).kept hh_11.1.2.1, hG.step hW hU hh_11.1, by omega⟩⟩ rfl rfl hl.1 rfl (lv_room (Nat.le_of_ble_eq_true rfl)) dX10_scan_195 ⟨Nat.zero_le _, Nat.zero_le _⟩) (fun r_115 hr_115 => ?_)
                        refine lv_if_lt (tgt := 205) hx hb dX10_scan_198 (by decide) (fun c_116 => ?_) (fun c_116 => ?_)
                        · skip
                          have c_116' : r_115.toInt < 0 := jb_lt (rfl) ((by decide)) c_116
                          refine lv_iconst (v := 0) hx hb dX10_scan_205 (by decide) ?_
                          refine lv_istore (lv' := [(7, .int 0), (6, .int z_10), (0, .ref r0), (1, .ref r1), (2, .int a2), (3, .int a3), (4, .int z_3), (5, .int v5_5)]) hx hb dX10_scan_206 hl (by decide) rfl (fun ls hl => ?_)
                          refine lv_aload_n hx hb dX10_scan_208 rfl (lv_at hl 2 rfl) ?_
                          refine lv_iload hx hb dX10_scan_209 (lv_at hl 0 rfl) ?_
                          refine lv_if_eq (tgt := 221) hx hb dX10_scan_211 (by decide) (fun c_117 => ?_) (fun c_117 => ?_)
                          · skip
                            refine lv_iconst (v := 0) hx hb dX10_scan_221 (by decide) ?_
                            refine lv_iconst (v := 0) hx hb dX10_scan_222 (by decide) ?_
                            obtain ⟨v_120, hv_120, hh_121⟩ := hh_11.pin (C := RX10) (T := TX10) (N := 11) hB12 rfl (by decide) hg_r0 (i := 3) (by decide) rfl
                            obtain ⟨tokens_122, rfl, hlotokens_122, hhitokens_122⟩ := hv_120
                            refine va_callv (A0 := jA base) (H0 := s.heap) (va_runV (As := [.int 0, .int 0]) (rest := []) ⟨hx, hb, hml, hown, hts⟩ (uX10_add l dC dI ca base B hB hAp hB12 hB101 G0 H_11 r0 0 0 tokens_122) (cwV 2 hts (jgV (jWr_37 _ (List.mem_of_getElem? (i := 7) rfl)) (jWr_37 _ (List.mem_of_getElem? (i := 8) rfl)) (jWr_37 _ (List.mem_of_getElem? (i := 9) rfl)) (jWr_4 _ (List.mem_of_getElem? (i := 14) rfl)) (jWr_37 _ (List.mem_of_getElem? (i := 10) rfl))) rfl rfl rfl (by decide +kernel) ⟨by rw [← hR]; exact Nat.le_of_ble_eq_true rfl, by rw [← hR]; exact Nat.le_of_ble_eq_true rfl⟩) ⟨fun a U g mk q => by obtain ⟨q0, q1, q2, qK, q10, q11, q12⟩ := q; exact ⟨q0, q1, q2, jG.calling g mk a qK, q10, q11, q12⟩, hh_121.recv (C := RX10) (T := TX10) (N := 11) hB12 rfl (by decide) hg_r0 hK, fun U hU hW => ⟨rfl, hU, hh_121.2.1, hG.step hW hU hh_121.1, hg_r0, (hh_121.2.2.1.sub (L1 := [(r0, 12, 3, .int tokens_122)]) [0] rfl), by first | omega | (refine ⟨?_, ?_⟩ <;> (first | omega | rfl | assumption | decide | exact Or.inl rfl | exact Or.inr rfl | (simp only; omega)))⟩⟩ rfl rfl hl.1 rfl (lv_room (Nat.le_of_ble_eq_true rfl)) dX10_scan_223 ⟨Nat.zero_le _, Nat.zero_le _⟩) hh_121.1 (fun q _ h => h) (fun q h => h) (fun u_118 t_118 H_118 locs_118 ht_118 hvm_118 hr_119 hb_118 hz_118 hk_118 hS_118 => ?_)
                            obtain ⟨qk_118, rfl⟩ : ∃ z, z = u_118 := ⟨_, rfl⟩
                            rw [ht_118] at hb_118
                            obtain ⟨hb_1181, hb_1182, hb_1183, hb_1184, hb_1185⟩ := hb_118
                            have hh_118 : jSt (dC, dI) B base G0 G0 EX10_scan s.heap 0 0 [(r0, 12, 3, .int qk_118)] [] [] H_118 locs_118 := ((hh_121.call hb_1181 hb_1182 hb_1183 hb_1184 hS_118 rfl (L1 := []) [] rfl rfl (M1 := []) [] rfl rfl (I1 := []) [] rfl rfl).more hb_1185)
                            clear hh_121 ht_118 hvm_118 hz_118 hk_118 hS_118 hb_1181 hb_1182 hb_1183 hb_1184 hb_1185
                            obtain ⟨hr_119_0, hr_119_1, hr_119_2⟩ := hr_119
                            exact C226 z_10 z_10 _ _ (hh_118.sub (L1 := []) [] rfl (M1 := []) [] rfl (I1 := []) [] rfl) (by first | omega | (refine ⟨?_, ?_⟩ <;> (first | omega | rfl | assumption | decide | exact Or.inl rfl | exact Or.inr rfl | (simp only; omega)))) _ (lv_sub hl [2, 3, 4, 5, 6, 7, 1, 1] rfl)
                          · skip
                            exact absurd c_117 (by decide)
                        · skip
                          have c_116' : r_115.toInt ≥ 0 := jb_lt_n (rfl) ((by decide)) c_116
                          refine lv_iconst (v := 1) hx hb dX10_scan_201 (by decide) ?_
                          refine lv_goto (tgt := 206) hx hb dX10_scan_202 (by decide) ?_
                          refine lv_istore (lv' := [(7, .int 1), (6, .int z_10), (0, .ref r0), (1, .ref r1), (2, .int a2), (3, .int a3), (4, .int z_3), (5, .int v5_5)]) hx hb dX10_scan_206 hl (by decide) rfl (fun ls hl => ?_)
                          refine lv_aload_n hx hb dX10_scan_208 rfl (lv_at hl 2 rfl) ?_
                          refine lv_iload hx hb dX10_scan_209 (lv_at hl 0 rfl) ?_
                          refine lv_if_eq (tgt := 221) hx hb dX10_scan_211 (by decide) (fun c_123 => ?_) (fun c_123 => ?_)
                          · skip
                            exact absurd c_123 (by decide)
                          · skip
                            refine lv_aload_n hx hb dX10_scan_214 rfl (lv_at hl 3 rfl) ?_
                            refine lv_iload hx hb dX10_scan_215 (lv_at hl 7 rfl) ?_
                            refine j7_iald hx hb hK hh_11 hB101 1 rfl (by decide) hg_r1 (x := v5_5.toInt) (rfl) (by omega) dX10_scan_217 (fun z_124 (hz_124 : True) => ?_)
                            refine lv_goto (tgt := 222) hx hb dX10_scan_218 (by decide) ?_
                            refine lv_iconst (v := 0) hx hb dX10_scan_222 (by decide) ?_
                            obtain ⟨v_127, hv_127, hh_128⟩ := hh_11.pin (C := RX10) (T := TX10) (N := 11) hB12 rfl (by decide) hg_r0 (i := 3) (by decide) rfl
                            obtain ⟨tokens_129, rfl, hlotokens_129, hhitokens_129⟩ := hv_127
                            refine va_callv (A0 := jA base) (H0 := s.heap) (va_runV (As := [.int z_124, .int 0]) (rest := []) ⟨hx, hb, hml, hown, hts⟩ (uX10_add l dC dI ca base B hB hAp hB12 hB101 G0 H_11 r0 z_124 0 tokens_129) (cwV 2 hts (jgV (jWr_37 _ (List.mem_of_getElem? (i := 7) rfl)) (jWr_37 _ (List.mem_of_getElem? (i := 8) rfl)) (jWr_37 _ (List.mem_of_getElem? (i := 9) rfl)) (jWr_4 _ (List.mem_of_getElem? (i := 14) rfl)) (jWr_37 _ (List.mem_of_getElem? (i := 10) rfl))) rfl rfl rfl (by decide +kernel) ⟨by rw [← hR]; exact Nat.le_of_ble_eq_true rfl, by rw [← hR]; exact Nat.le_of_ble_eq_true rfl⟩) ⟨fun a U g mk q => by obtain ⟨q0, q1, q2, qK, q10, q11, q12⟩ := q; exact ⟨q0, q1, q2, jG.calling g mk a qK, q10, q11, q12⟩, hh_128.recv (C := RX10) (T := TX10) (N := 11) hB12 rfl (by decide) hg_r0 hK, fun U hU hW => ⟨rfl, hU, hh_128.2.1, hG.step hW hU hh_128.1, hg_r0, (hh_128.2.2.1.sub (L1 := [(r0, 12, 3, .int tokens_129)]) [0] rfl), by first | omega | (refine ⟨?_, ?_⟩ <;> (first | omega | rfl | assumption | decide | exact Or.inl rfl | exact Or.inr rfl | (simp only; omega)))⟩⟩ rfl rfl hl.1 rfl (lv_room (Nat.le_of_ble_eq_true rfl)) dX10_scan_223 ⟨Nat.zero_le _, Nat.zero_le _⟩) hh_128.1 (fun q _ h => h) (fun q h => h) (fun u_125 t_125 H_125 locs_125 ht_125 hvm_125 hr_126 hb_125 hz_125 hk_125 hS_125 => ?_)
                            obtain ⟨qk_125, rfl⟩ : ∃ z, z = u_125 := ⟨_, rfl⟩
                            rw [ht_125] at hb_125
                            obtain ⟨hb_1251, hb_1252, hb_1253, hb_1254, hb_1255⟩ := hb_125
                            have hh_125 : jSt (dC, dI) B base G0 G0 EX10_scan s.heap 0 0 [(r0, 12, 3, .int qk_125)] [] [] H_125 locs_125 := ((hh_128.call hb_1251 hb_1252 hb_1253 hb_1254 hS_125 rfl (L1 := []) [] rfl rfl (M1 := []) [] rfl rfl (I1 := []) [] rfl rfl).more hb_1255)
                            clear hh_128 ht_125 hvm_125 hz_125 hk_125 hS_125 hb_1251 hb_1252 hb_1253 hb_1254 hb_1255
                            obtain ⟨hr_126_0, hr_126_1, hr_126_2⟩ := hr_126
                            exact C226 z_10 z_10 _ _ (hh_125.sub (L1 := []) [] rfl (M1 := []) [] rfl (I1 := []) [] rfl) (by first | omega | (refine ⟨?_, ?_⟩ <;> (first | omega | rfl | assumption | decide | exact Or.inl rfl | exact Or.inr rfl | (simp only; omega)))) _ (lv_sub hl [2, 3, 4, 5, 6, 7, 1, 1] rfl)
                    · skip
                      have c_104' : z_103.toInt = 46 := jb_ne_n (rfl) ((by decide)) c_104
                      refine lv_iload hx hb dX10_scan_171 (lv_at hl 0 rfl) ?_
                      refine lv_iload hx hb dX10_scan_173 (lv_at hl 5 rfl) ?_
                      refine lv_icmp_eq (tgt := 201) hx hb dX10_scan_175 (by decide) (fun c_130 => ?_) (fun c_130 => ?_)
                      · skip
                        have c_130' : z_10.toInt = z_3.toInt := jb_eq (rfl) (rfl) c_130
                        refine lv_iconst (v := 1) hx hb dX10_scan_201 (by decide) ?_
                        refine lv_goto (tgt := 206) hx hb dX10_scan_202 (by decide) ?_
                        refine lv_istore (lv' := [(7, .int 1), (6, .int z_10), (0, .ref r0), (1, .ref r1), (2, .int a2), (3, .int a3), (4, .int z_3), (5, .int v5_5)]) hx hb dX10_scan_206 hl (by decide) rfl (fun ls hl => ?_)
                        refine lv_aload_n hx hb dX10_scan_208 rfl (lv_at hl 2 rfl) ?_
                        refine lv_iload hx hb dX10_scan_209 (lv_at hl 0 rfl) ?_
                        refine lv_if_eq (tgt := 221) hx hb dX10_scan_211 (by decide) (fun c_131 => ?_) (fun c_131 => ?_)
                        · skip
                          exact absurd c_131 (by decide)
                        · skip
                          refine lv_aload_n hx hb dX10_scan_214 rfl (lv_at hl 3 rfl) ?_
                          refine lv_iload hx hb dX10_scan_215 (lv_at hl 7 rfl) ?_
                          refine j7_iald hx hb hK hh_11 hB101 1 rfl (by decide) hg_r1 (x := v5_5.toInt) (rfl) (by omega) dX10_scan_217 (fun z_132 (hz_132 : True) => ?_)
                          refine lv_goto (tgt := 222) hx hb dX10_scan_218 (by decide) ?_
                          refine lv_iconst (v := 0) hx hb dX10_scan_222 (by decide) ?_
                          obtain ⟨v_135, hv_135, hh_136⟩ := hh_11.pin (C := RX10) (T := TX10) (N := 11) hB12 rfl (by decide) hg_r0 (i := 3) (by decide) rfl
                          obtain ⟨tokens_137, rfl, hlotokens_137, hhitokens_137⟩ := hv_135
                          refine va_callv (A0 := jA base) (H0 := s.heap) (va_runV (As := [.int z_132, .int 0]) (rest := []) ⟨hx, hb, hml, hown, hts⟩ (uX10_add l dC dI ca base B hB hAp hB12 hB101 G0 H_11 r0 z_132 0 tokens_137) (cwV 2 hts (jgV (jWr_37 _ (List.mem_of_getElem? (i := 7) rfl)) (jWr_37 _ (List.mem_of_getElem? (i := 8) rfl)) (jWr_37 _ (List.mem_of_getElem? (i := 9) rfl)) (jWr_4 _ (List.mem_of_getElem? (i := 14) rfl)) (jWr_37 _ (List.mem_of_getElem? (i := 10) rfl))) rfl rfl rfl (by decide +kernel) ⟨by rw [← hR]; exact Nat.le_of_ble_eq_true rfl, by rw [← hR]; exact Nat.le_of_ble_eq_true rfl⟩) ⟨fun a U g mk q => by obtain ⟨q0, q1, q2, qK, q10, q11, q12⟩ := q; exact ⟨q0, q1, q2, jG.calling g mk a qK, q10, q11, q12⟩, hh_136.recv (C := RX10) (T := TX10) (N := 11) hB12 rfl (by decide) hg_r0 hK, fun U hU hW => ⟨rfl, hU, hh_136.2.1, hG.step hW hU hh_136.1, hg_r0, (hh_136.2.2.1.sub (L1 := [(r0, 12, 3, .int tokens_137)]) [0] rfl), by first | omega | (refine ⟨?_, ?_⟩ <;> (first | omega | rfl | assumption | decide | exact Or.inl rfl | exact Or.inr rfl | (simp only; omega)))⟩⟩ rfl rfl hl.1 rfl (lv_room (Nat.le_of_ble_eq_true rfl)) dX10_scan_223 ⟨Nat.zero_le _, Nat.zero_le _⟩) hh_136.1 (fun q _ h => h) (fun q h => h) (fun u_133 t_133 H_133 locs_133 ht_133 hvm_133 hr_134 hb_133 hz_133 hk_133 hS_133 => ?_)
                          obtain ⟨qk_133, rfl⟩ : ∃ z, z = u_133 := ⟨_, rfl⟩
                          rw [ht_133] at hb_133
                          obtain ⟨hb_1331, hb_1332, hb_1333, hb_1334, hb_1335⟩ := hb_133
                          have hh_133 : jSt (dC, dI) B base G0 G0 EX10_scan s.heap 0 0 [(r0, 12, 3, .int qk_133)] [] [] H_133 locs_133 := ((hh_136.call hb_1331 hb_1332 hb_1333 hb_1334 hS_133 rfl (L1 := []) [] rfl rfl (M1 := []) [] rfl rfl (I1 := []) [] rfl rfl).more hb_1335)
                          clear hh_136 ht_133 hvm_133 hz_133 hk_133 hS_133 hb_1331 hb_1332 hb_1333 hb_1334 hb_1335
                          obtain ⟨hr_134_0, hr_134_1, hr_134_2⟩ := hr_134
                          exact C226 z_10 z_10 _ _ (hh_133.sub (L1 := []) [] rfl (M1 := []) [] rfl (I1 := []) [] rfl) (by first | omega | (refine ⟨?_, ?_⟩ <;> (first | omega | rfl | assumption | decide | exact Or.inl rfl | exact Or.inr rfl | (simp only; omega)))) _ (lv_sub hl [2, 3, 4, 5, 6, 7, 1, 1] rfl)
                      · skip
                        have c_130' : z_10.toInt ≠ z_3.toInt := jb_eq_n (rfl) (rfl) c_130
                        refine lv_aload_n hx hb dX10_scan_178 rfl (lv_at hl 2 rfl) ?_
                        refine lv_iload hx hb dX10_scan_179 (lv_at hl 6 rfl) ?_
                        refine j7_iald hx hb hK hh_11 hB101 1 rfl (by decide) hg_r1 (x := v5_5.toInt) (rfl) (by omega) dX10_scan_181 (fun z_138 (hz_138 : True) => ?_)
                        refine lv_sipush (v := 128) hx hb dX10_scan_182 (by decide) ?_
                        refine lv_icmp_ge (tgt := 205) hx hb dX10_scan_185 (by decide) (fun c_139 => ?_) (fun c_139 => ?_)
                        · skip
                          have c_139' : z_138.toInt ≥ 128 := jb_ge (rfl) ((by decide)) c_139
                          refine lv_iconst (v := 0) hx hb dX10_scan_205 (by decide) ?_
                          refine lv_istore (lv' := [(7, .int 0), (6, .int z_10), (0, .ref r0), (1, .ref r1), (2, .int a2), (3, .int a3), (4, .int z_3), (5, .int v5_5)]) hx hb dX10_scan_206 hl (by decide) rfl (fun ls hl => ?_)
                          refine lv_aload_n hx hb dX10_scan_208 rfl (lv_at hl 2 rfl) ?_
                          refine lv_iload hx hb dX10_scan_209 (lv_at hl 0 rfl) ?_
                          refine lv_if_eq (tgt := 221) hx hb dX10_scan_211 (by decide) (fun c_140 => ?_) (fun c_140 => ?_)
                          · skip
                            refine lv_iconst (v := 0) hx hb dX10_scan_221 (by decide) ?_
                            refine lv_iconst (v := 0) hx hb dX10_scan_222 (by decide) ?_
                            obtain ⟨v_143, hv_143, hh_144⟩ := hh_11.pin (C := RX10) (T := TX10) (N := 11) hB12 rfl (by decide) hg_r0 (i := 3) (by decide) rfl
                            obtain ⟨tokens_145, rfl, hlotokens_145, hhitokens_145⟩ := hv_143
                            refine va_callv (A0 := jA base) (H0 := s.heap) (va_runV (As := [.int 0, .int 0]) (rest := []) ⟨hx, hb, hml, hown, hts⟩ (uX10_add l dC dI ca base B hB hAp hB12 hB101 G0 H_11 r0 0 0 tokens_145) (cwV 2 hts (jgV (jWr_37 _ (List.mem_of_getElem? (i := 7) rfl)) (jWr_37 _ (List.mem_of_getElem? (i := 8) rfl)) (jWr_37 _ (List.mem_of_getElem? (i := 9) rfl)) (jWr_4 _ (List.mem_of_getElem? (i := 14) rfl)) (jWr_37 _ (List.mem_of_getElem? (i := 10) rfl))) rfl rfl rfl (by decide +kernel) ⟨by rw [← hR]; exact Nat.le_of_ble_eq_true rfl, by rw [← hR]; exact Nat.le_of_ble_eq_true rfl⟩) ⟨fun a U g mk q => by obtain ⟨q0, q1, q2, qK, q10, q11, q12⟩ := q; exact ⟨q0, q1, q2, jG.calling g mk a qK, q10, q11, q12⟩, hh_144.recv (C := RX10) (T := TX10) (N := 11) hB12 rfl (by decide) hg_r0 hK, fun U hU hW => ⟨rfl, hU, hh_144.2.1, hG.step hW hU hh_144.1, hg_r0, (hh_144.2.2.1.sub (L1 := [(r0, 12, 3, .int tokens_145)]) [0] rfl), by first | omega | (refine ⟨?_, ?_⟩ <;> (first | omega | rfl | assumption | decide | exact Or.inl rfl | exact Or.inr rfl | (simp only; omega)))⟩⟩ rfl rfl hl.1 rfl (lv_room (Nat.le_of_ble_eq_true rfl)) dX10_scan_223 ⟨Nat.zero_le _, Nat.zero_le _⟩) hh_144.1 (fun q _ h => h) (fun q h => h) (fun u_141 t_141 H_141 locs_141 ht_141 hvm_141 hr_142 hb_141 hz_141 hk_141 hS_141 => ?_)
                            obtain ⟨qk_141, rfl⟩ : ∃ z, z = u_141 := ⟨_, rfl⟩
                            rw [ht_141] at hb_141
                            obtain ⟨hb_1411, hb_1412, hb_1413, hb_1414, hb_1415⟩ := hb_141
                            have hh_141 : jSt (dC, dI) B base G0 G0 EX10_scan s.heap 0 0 [(r0, 12, 3, .int qk_141)] [] [] H_141 locs_141 := ((hh_144.call hb_1411 hb_1412 hb_1413 hb_1414 hS_141 rfl (L1 := []) [] rfl rfl (M1 := []) [] rfl rfl (I1 := []) [] rfl rfl).more hb_1415)
                            clear hh_144 ht_141 hvm_141 hz_141 hk_141 hS_141 hb_1411 hb_1412 hb_1413 hb_1414 hb_1415
                            obtain ⟨hr_142_0, hr_142_1, hr_142_2⟩ := hr_142
                            exact C226 z_10 z_10 _ _ (hh_141.sub (L1 := []) [] rfl (M1 := []) [] rfl (I1 := []) [] rfl) (by first | omega | (refine ⟨?_, ?_⟩ <;> (first | omega | rfl | assumption | decide | exact Or.inl rfl | exact Or.inr rfl | (simp only; omega)))) _ (lv_sub hl [2, 3, 4, 5, 6, 7, 1, 1] rfl)
                          · skip
                            exact absurd c_140 (by decide)
                        · skip
                          have c_139' : z_138.toInt < 128 := jb_ge_n (rfl) ((by decide)) c_139
                          refine va_ldcS hx hb hown rstr66 dX10_scan_188 ?_
                          refine lv_aload_n hx hb dX10_scan_190 rfl (lv_at hl 2 rfl) ?_
                          refine lv_iload hx hb dX10_scan_191 (lv_at hl 6 rfl) ?_
                          refine j7_iald hx hb hK hh_11 hB101 1 rfl (by decide) hg_r1 (x := v5_5.toInt) (rfl) (by omega) dX10_scan_193 (fun z_146 (hz_146 : True) => ?_)
                          refine lv_i2c hx hb dX10_scan_194 rfl ?_
                          refine lv_topi (fun z_147 ez_147 => ?_)
                          refine vp_callSi (W.runV (As := [.int z_147]) (rest := []) ⟨hx, hb, hml, hown, hts⟩ (wJ0_indexOf_0f7a4 l dC dI ca base H_11 str66 8 z_147) (cwV 1 hts (jgV (jWr_37 _ (List.mem_of_getElem? (i := 11) rfl)) (jWr_37 _ (List.mem_of_getElem? (i := 12) rfl)) (jWr_37 _ (List.mem_of_getElem? (i := 13) rfl)) (jWr_5 _ (List.mem_of_getElem? (i := 15) rfl)) (jWr_37 _ (List.mem_of_getElem? (i := 14) rfl))) rfl rfl rfl (by decide +kernel) ⟨by rw [← hR]; exact Nat.le_of_ble_eq_true rfl, by rw [← hR]; exact Nat.le_of_ble_eq_true rfl⟩) ⟨fun a U g mk q => by obtain ⟨q0, q1, q2, qK, q9⟩ := q; exact ⟨q0, q1, (q2.moved (Vm.Alike.refl U.vm)), jG.calling g mk a qK, q9⟩, jStr_recv hstr66 hh_11.1, fun U hU hW => ⟨rfl, hU, (hstr66.moved hW.alike).kept hh_11.1.2.1, hG.step hW hU hh_11.1, by omega⟩⟩ rfl rfl hl.1 rfl (lv_room (Nat.le_of_ble_eq_true rfl)) dX10_scan_195 ⟨Nat.zero_le _, Nat.zero_le _⟩) (fun r_148 hr_148 => ?_)
                          refine lv_if_lt (tgt := 205) hx hb dX10_scan_198 (by decide) (fun c_149 => ?_) (fun c_149 => ?_)
                          · skip
                            have c_149' : r_148.toInt < 0 := jb_lt (rfl) ((by decide)) c_149
                            refine lv_iconst (v := 0) hx hb dX10_scan_205 (by decide) ?_
                            refine lv_istore (lv' := [(7, .int 0), (6, .int z_10), (0, .ref r0), (1, .ref r1), (2, .int a2), (3, .int a3), (4, .int z_3), (5, .int v5_5)]) hx hb dX10_scan_206 hl (by decide) rfl (fun ls hl => ?_)
                            refine lv_aload_n hx hb dX10_scan_208 rfl (lv_at hl 2 rfl) ?_
                            refine lv_iload hx hb dX10_scan_209 (lv_at hl 0 rfl) ?_
                            refine lv_if_eq (tgt := 221) hx hb dX10_scan_211 (by decide) (fun c_150 => ?_) (fun c_150 => ?_)
                            · skip
                              refine lv_iconst (v := 0) hx hb dX10_scan_221 (by decide) ?_
                              refine lv_iconst (v := 0) hx hb dX10_scan_222 (by decide) ?_
                              obtain ⟨v_153, hv_153, hh_154⟩ := hh_11.pin (C := RX10) (T := TX10) (N := 11) hB12 rfl (by decide) hg_r0 (i := 3) (by decide) rfl
                              obtain ⟨tokens_155, rfl, hlotokens_155, hhitokens_155⟩ := hv_153
                              refine va_callv (A0 := jA base) (H0 := s.heap) (va_runV (As := [.int 0, .int 0]) (rest := []) ⟨hx, hb, hml, hown, hts⟩ (uX10_add l dC dI ca base B hB hAp hB12 hB101 G0 H_11 r0 0 0 tokens_155) (cwV 2 hts (jgV (jWr_37 _ (List.mem_of_getElem? (i := 7) rfl)) (jWr_37 _ (List.mem_of_getElem? (i := 8) rfl)) (jWr_37 _ (List.mem_of_getElem? (i := 9) rfl)) (jWr_4 _ (List.mem_of_getElem? (i := 14) rfl)) (jWr_37 _ (List.mem_of_getElem? (i := 10) rfl))) rfl rfl rfl (by decide +kernel) ⟨by rw [← hR]; exact Nat.le_of_ble_eq_true rfl, by rw [← hR]; exact Nat.le_of_ble_eq_true rfl⟩) ⟨fun a U g mk q => by obtain ⟨q0, q1, q2, qK, q10, q11, q12⟩ := q; exact ⟨q0, q1, q2, jG.calling g mk a qK, q10, q11, q12⟩, hh_154.recv (C := RX10) (T := TX10) (N := 11) hB12 rfl (by decide) hg_r0 hK, fun U hU hW => ⟨rfl, hU, hh_154.2.1, hG.step hW hU hh_154.1, hg_r0, (hh_154.2.2.1.sub (L1 := [(r0, 12, 3, .int tokens_155)]) [0] rfl), by first | omega | (refine ⟨?_, ?_⟩ <;> (first | omega | rfl | assumption | decide | exact Or.inl rfl | exact Or.inr rfl | (simp only; omega)))⟩⟩ rfl rfl hl.1 rfl (lv_room (Nat.le_of_ble_eq_true rfl)) dX10_scan_223 ⟨Nat.zero_le _, Nat.zero_le _⟩) hh_154.1 (fun q _ h => h) (fun q h => h) (fun u_151 t_151 H_151 locs_151 ht_151 hvm_151 hr_152 hb_151 hz_151 hk_151 hS_151 => ?_)
                              obtain ⟨qk_151, rfl⟩ : ∃ z, z = u_151 := ⟨_, rfl⟩
                              rw [ht_151] at hb_151
                              obtain ⟨hb_1511, hb_1512, hb_1513, hb_1514, hb_1515⟩ := hb_151
                              have hh_151 : jSt (dC, dI) B base G0 G0 EX10_scan s.heap 0 0 [(r0, 12, 3, .int qk_151)] [] [] H_151 locs_151 := ((hh_154.call hb_1511 hb_1512 hb_1513 hb_1514 hS_151 rfl (L1 := []) [] rfl rfl (M1 := []) [] rfl rfl (I1 := []) [] rfl rfl).more hb_1515)
                              clear hh_154 ht_151 hvm_151 hz_151 hk_151 hS_151 hb_1511 hb_1512 hb_1513 hb_1514 hb_1515
                              obtain ⟨hr_152_0, hr_152_1, hr_152_2⟩ := hr_152
                              exact C226 z_10 z_10 _ _ (hh_151.sub (L1 := []) [] rfl (M1 := []) [] rfl (I1 := []) [] rfl) (by first | omega | (refine ⟨?_, ?_⟩ <;> (first | omega | rfl | assumption | decide | exact Or.inl rfl | exact Or.inr rfl | (simp only; omega)))) _ (lv_sub hl [2, 3, 4, 5, 6, 7, 1, 1] rfl)
                            · skip
                              exact absurd c_150 (by decide)
                          · skip
                            have c_149' : r_148.toInt ≥ 0 := jb_lt_n (rfl) ((by decide)) c_149
                            refine lv_iconst (v := 1) hx hb dX10_scan_201 (by decide) ?_
                            refine lv_goto (tgt := 206) hx hb dX10_scan_202 (by decide) ?_
                            refine lv_istore (lv' := [(7, .int 1), (6, .int z_10), (0, .ref r0), (1, .ref r1), (2, .int a2), (3, .int a3), (4, .int z_3), (5, .int v5_5)]) hx hb dX10_scan_206 hl (by decide) rfl (fun ls hl => ?_)
                            refine lv_aload_n hx hb dX10_scan_208 rfl (lv_at hl 2 rfl) ?_
                            refine lv_iload hx hb dX10_scan_209 (lv_at hl 0 rfl) ?_
                            refine lv_if_eq (tgt := 221) hx hb dX10_scan_211 (by decide) (fun c_156 => ?_) (fun c_156 => ?_)
                            · skip
                              exact absurd c_156 (by decide)
                            · skip
                              refine lv_aload_n hx hb dX10_scan_214 rfl (lv_at hl 3 rfl) ?_
                              refine lv_iload hx hb dX10_scan_215 (lv_at hl 7 rfl) ?_
                              refine j7_iald hx hb hK hh_11 hB101 1 rfl (by decide) hg_r1 (x := v5_5.toInt) (rfl) (by omega) dX10_scan_217 (fun z_157 (hz_157 : True) => ?_)
                              refine lv_goto (tgt := 222) hx hb dX10_scan_218 (by decide) ?_
                              refine lv_iconst (v := 0) hx hb dX10_scan_222 (by decide) ?_
                              obtain ⟨v_160, hv_160, hh_161⟩ := hh_11.pin (C := RX10) (T := TX10) (N := 11) hB12 rfl (by decide) hg_r0 (i := 3) (by decide) rfl
                              obtain ⟨tokens_162, rfl, hlotokens_162, hhitokens_162⟩ := hv_160
                              refine va_callv (A0 := jA base) (H0 := s.heap) (va_runV (As := [.int z_157, .int 0]) (rest := []) ⟨hx, hb, hml, hown, hts⟩ (uX10_add l dC dI ca base B hB hAp hB12 hB101 G0 H_11 r0 z_157 0 tokens_162) (cwV 2 hts (jgV (jWr_37 _ (List.mem_of_getElem? (i := 7) rfl)) (jWr_37 _ (List.mem_of_getElem? (i := 8) rfl)) (jWr_37 _ (List.mem_of_getElem? (i := 9) rfl)) (jWr_4 _ (List.mem_of_getElem? (i := 14) rfl)) (jWr_37 _ (List.mem_of_getElem? (i := 10) rfl))) rfl rfl rfl (by decide +kernel) ⟨by rw [← hR]; exact Nat.le_of_ble_eq_true rfl, by rw [← hR]; exact Nat.le_of_ble_eq_true rfl⟩) ⟨fun a U g mk q => by obtain ⟨q0, q1, q2, qK, q10, q11, q12⟩ := q; exact ⟨q0, q1, q2, jG.calling g mk a qK, q10, q11, q12⟩, hh_161.recv (C := RX10) (T := TX10) (N := 11) hB12 rfl (by decide) hg_r0 hK, fun U hU hW => ⟨rfl, hU, hh_161.2.1, hG.step hW hU hh_161.1, hg_r0, (hh_161.2.2.1.sub (L1 := [(r0, 12, 3, .int tokens_162)]) [0] rfl), by first | omega | (refine ⟨?_, ?_⟩ <;> (first | omega | rfl | assumption | decide | exact Or.inl rfl | exact Or.inr rfl | (simp only; omega)))⟩⟩ rfl rfl hl.1 rfl (lv_room (Nat.le_of_ble_eq_true rfl)) dX10_scan_223 ⟨Nat.zero_le _, Nat.zero_le _⟩) hh_161.1 (fun q _ h => h) (fun q h => h) (fun u_158 t_158 H_158 locs_158 ht_158 hvm_158 hr_159 hb_158 hz_158 hk_158 hS_158 => ?_)
                              obtain ⟨qk_158, rfl⟩ : ∃ z, z = u_158 := ⟨_, rfl⟩
                              rw [ht_158] at hb_158
                              obtain ⟨hb_1581, hb_1582, hb_1583, hb_1584, hb_1585⟩ := hb_158
                              have hh_158 : jSt (dC, dI) B base G0 G0 EX10_scan s.heap 0 0 [(r0, 12, 3, .int qk_158)] [] [] H_158 locs_158 := ((hh_161.call hb_1581 hb_1582 hb_1583 hb_1584 hS_158 rfl (L1 := []) [] rfl rfl (M1 := []) [] rfl rfl (I1 := []) [] rfl rfl).more hb_1585)
                              clear hh_161 ht_158 hvm_158 hz_158 hk_158 hS_158 hb_1581 hb_1582 hb_1583 hb_1584 hb_1585
                              obtain ⟨hr_159_0, hr_159_1, hr_159_2⟩ := hr_159
                              exact C226 z_10 z_10 _ _ (hh_158.sub (L1 := []) [] rfl (M1 := []) [] rfl (I1 := []) [] rfl) (by first | omega | (refine ⟨?_, ?_⟩ <;> (first | omega | rfl | assumption | decide | exact Or.inl rfl | exact Or.inr rfl | (simp only; omega)))) _ (lv_sub hl [2, 3, 4, 5, 6, 7, 1, 1] rfl)
                · skip
                  have c_99' : r_98.toInt ≠ 0 := jb_eq_n (rfl) ((by decide)) c_99
                  refine lv_aload_n hx hb dX10_scan_136 rfl (lv_at hl 1 rfl) ?_
                  refine lv_bipush (v := 100) hx hb dX10_scan_137 (by decide) ?_
                  refine lv_aload_n hx hb dX10_scan_139 rfl (lv_at hl 2 rfl) ?_
                  refine lv_iload hx hb dX10_scan_140 (lv_at hl 6 rfl) ?_
                  refine j7_iald hx hb hK hh_11 hB101 1 rfl (by decide) hg_r1 (x := v5_5.toInt) (rfl) (by omega) dX10_scan_142 (fun z_163 (hz_163 : True) => ?_)
                  refine lv_bipush (v := 48) hx hb dX10_scan_143 (by decide) ?_
                  refine lv_isub hx hb dX10_scan_145 ?_
                  refine lv_topi (fun z_164 ez_164 => ?_)
                  obtain ⟨v_167, hv_167, hh_168⟩ := hh_11.pin (C := RX10) (T := TX10) (N := 11) hB12 rfl (by decide) hg_r0 (i := 3) (by decide) rfl
                  obtain ⟨tokens_169, rfl, hlotokens_169, hhitokens_169⟩ := hv_167
                  refine va_callv (A0 := jA base) (H0 := s.heap) (va_runV (As := [.int 100, .int z_164]) (rest := []) ⟨hx, hb, hml, hown, hts⟩ (uX10_add l dC dI ca base B hB hAp hB12 hB101 G0 H_11 r0 100 z_164 tokens_169) (cwV 2 hts (jgV (jWr_37 _ (List.mem_of_getElem? (i := 7) rfl)) (jWr_37 _ (List.mem_of_getElem? (i := 8) rfl)) (jWr_37 _ (List.mem_of_getElem? (i := 9) rfl)) (jWr_4 _ (List.mem_of_getElem? (i := 14) rfl)) (jWr_37 _ (List.mem_of_getElem? (i := 10) rfl))) rfl rfl rfl (by decide +kernel) ⟨by rw [← hR]; exact Nat.le_of_ble_eq_true rfl, by rw [← hR]; exact Nat.le_of_ble_eq_true rfl⟩) ⟨fun a U g mk q => by obtain ⟨q0, q1, q2, qK, q10, q11, q12⟩ := q; exact ⟨q0, q1, q2, jG.calling g mk a qK, q10, q11, q12⟩, hh_168.recv (C := RX10) (T := TX10) (N := 11) hB12 rfl (by decide) hg_r0 hK, fun U hU hW => ⟨rfl, hU, hh_168.2.1, hG.step hW hU hh_168.1, hg_r0, (hh_168.2.2.1.sub (L1 := [(r0, 12, 3, .int tokens_169)]) [0] rfl), by first | omega | (refine ⟨?_, ?_⟩ <;> (first | omega | rfl | assumption | decide | exact Or.inl rfl | exact Or.inr rfl | (simp only; omega)))⟩⟩ rfl rfl hl.1 rfl (lv_room (Nat.le_of_ble_eq_true rfl)) dX10_scan_146 ⟨Nat.zero_le _, Nat.zero_le _⟩) hh_168.1 (fun q _ h => h) (fun q h => h) (fun u_165 t_165 H_165 locs_165 ht_165 hvm_165 hr_166 hb_165 hz_165 hk_165 hS_165 => ?_)
                  obtain ⟨qk_165, rfl⟩ : ∃ z, z = u_165 := ⟨_, rfl⟩
                  rw [ht_165] at hb_165
                  obtain ⟨hb_1651, hb_1652, hb_1653, hb_1654, hb_1655⟩ := hb_165
                  have hh_165 : jSt (dC, dI) B base G0 G0 EX10_scan s.heap 0 0 [(r0, 12, 3, .int qk_165)] [] [] H_165 locs_165 := ((hh_168.call hb_1651 hb_1652 hb_1653 hb_1654 hS_165 rfl (L1 := []) [] rfl rfl (M1 := []) [] rfl rfl (I1 := []) [] rfl rfl).more hb_1655)
                  clear hh_168 ht_165 hvm_165 hz_165 hk_165 hS_165 hb_1651 hb_1652 hb_1653 hb_1654 hb_1655
                  obtain ⟨hr_166_0, hr_166_1, hr_166_2⟩ := hr_166
                  refine lv_goto (tgt := 226) hx hb dX10_scan_149 (by decide) ?_
                  exact C226 z_10 z_10 _ _ (hh_165.sub (L1 := []) [] rfl (M1 := []) [] rfl (I1 := []) [] rfl) (by first | omega | (refine ⟨?_, ?_⟩ <;> (first | omega | rfl | assumption | decide | exact Or.inl rfl | exact Or.inr rfl | (simp only; omega)))) _ (lv_sub hl [1, 2, 3, 4, 5, 6, 0, 0] rfl)
              · skip
                have c_96' : z_95.toInt < z_3.toInt := jb_ge_n (rfl) (rfl) c_96
                refine lv_aload_n hx hb dX10_scan_99 rfl (lv_at hl 2 rfl) ?_
                refine lv_iload hx hb dX10_scan_100 (lv_at hl 6 rfl) ?_
                refine lv_iconst (v := 1) hx hb dX10_scan_102 (by decide) ?_
                refine lv_iadd hx hb dX10_scan_103 ?_
                refine lv_topi (fun z_170 ez_170 => ?_)
                have hz_170 : z_170.toInt = v5_5.toInt + 1 := by rw [ez_170]; exact jb_iadd2 (rfl) ((by decide)) (by omega)
                refine j7_iald hx hb hK hh_11 hB101 1 rfl (by decide) hg_r1 (x := z_170.toInt) (rfl) (by omega) dX10_scan_104 (fun z_171 (hz_171 : True) => ?_)
                refine lv_bipush (v := 62) hx hb dX10_scan_105 (by decide) ?_
                refine lv_icmp_ne (tgt := 126) hx hb dX10_scan_107 (by decide) (fun c_172 => ?_) (fun c_172 => ?_)
                · skip
                  have c_172' : z_171.toInt ≠ 62 := jb_ne (rfl) ((by decide)) c_172
                  refine lv_aload_n hx hb dX10_scan_126 rfl (lv_at hl 2 rfl) ?_
                  refine lv_iload hx hb dX10_scan_127 (lv_at hl 6 rfl) ?_
                  refine j7_iald hx hb hK hh_11 hB101 1 rfl (by decide) hg_r1 (x := v5_5.toInt) (rfl) (by omega) dX10_scan_129 (fun z_173 (hz_173 : True) => ?_)
                  refine vp_callSi (va_Run.run (va_runSN (As := [.int z_173]) (rest := []) ⟨hx, hb, hml, hown, hts⟩ (wX11_isDigit l dC dI ca base H_11 z_173) ⟨va_cnB 1 hts (jgW (jWr_22 _ (List.mem_of_getElem? (i := 15) rfl))) rfl rfl rfl (hG.2.2.1 RX10 60 yX11_isDigit "ProofServer" (List.mem_of_getElem? (i := 1150) (by decide +kernel))) (htw (.initialized RX11) (jWr_1 _ (List.mem_of_getElem? (i := 2) rfl))) (by decide +kernel) ⟨by rw [← hR]; exact Nat.le_of_ble_eq_true rfl, by rw [← hR]; exact Nat.le_of_ble_eq_true rfl⟩, htw (.static yX11_isDigit) (jWr_22 _ (List.mem_of_getElem? (i := 14) rfl)), trivial⟩ ⟨fun a U g mk q => by obtain ⟨q0, q1, qK, q9⟩ := q; exact ⟨q0, q1, jG.calling g mk a qK, q9⟩, fun U hU hW => ⟨rfl, hU, hG.step hW hU hh_11.1, by first | trivial | omega | (constructor <;> omega)⟩⟩ rfl rfl hl.1 rfl (lv_room (Nat.le_of_ble_eq_true rfl)) dX10_scan_130 ⟨Nat.zero_le _, Nat.zero_le _⟩)) (fun r_174 hr_174 => ?_)
                  have hr_174' : r_174.toInt = 0 ∨ r_174.toInt = 1 := jb_01 hr_174
                  refine lv_if_eq (tgt := 152) hx hb dX10_scan_133 (by decide) (fun c_175 => ?_) (fun c_175 => ?_)
                  · skip
                    have c_175' : r_174.toInt = 0 := jb_eq (rfl) ((by decide)) c_175
                    refine lv_aload_n hx hb dX10_scan_152 rfl (lv_at hl 2 rfl) ?_
                    refine lv_iload hx hb dX10_scan_153 (lv_at hl 6 rfl) ?_
                    refine j7_iald hx hb hK hh_11 hB101 1 rfl (by decide) hg_r1 (x := v5_5.toInt) (rfl) (by omega) dX10_scan_155 (fun z_176 (hz_176 : True) => ?_)
                    refine vp_callSi (va_Run.run (va_runSN (As := [.int z_176]) (rest := []) ⟨hx, hb, hml, hown, hts⟩ (wX11_isBlank l dC dI ca base H_11 z_176) ⟨va_cnB 1 hts (jgW (jWr_20 _ (List.mem_of_getElem? (i := 0) rfl))) rfl rfl rfl (hG.2.2.1 RX10 63 yX11_isBlank "ProofServer" (List.mem_of_getElem? (i := 1151) (by decide +kernel))) (htw (.initialized RX11) (jWr_1 _ (List.mem_of_getElem? (i := 2) rfl))) (by decide +kernel) ⟨by rw [← hR]; exact Nat.le_of_ble_eq_true rfl, by rw [← hR]; exact Nat.le_of_ble_eq_true rfl⟩, htw (.static yX11_isBlank) (jWr_19 _ (List.mem_of_getElem? (i := 23) rfl)), trivial⟩ ⟨fun a U g mk q => by obtain ⟨q0, q1, qK, q9⟩ := q; exact ⟨q0, q1, jG.calling g mk a qK, q9⟩, fun U hU hW => ⟨rfl, hU, hG.step hW hU hh_11.1, by first | trivial | omega | (constructor <;> omega)⟩⟩ rfl rfl hl.1 rfl (lv_room (Nat.le_of_ble_eq_true rfl)) dX10_scan_156 ⟨Nat.zero_le _, Nat.zero_le _⟩)) (fun r_177 hr_177 => ?_)
                    have hr_177' : r_177.toInt = 0 ∨ r_177.toInt = 1 := jb_01 hr_177
                    refine lv_if_ne (tgt := 226) hx hb dX10_scan_159 (by decide) (fun c_178 => ?_) (fun c_178 => ?_)
                    · skip
                      have c_178' : r_177.toInt ≠ 0 := jb_ne (rfl) ((by decide)) c_178
                      exact C226 z_10 z_10 _ _ hh_11 (by first | omega | (refine ⟨?_, ?_⟩ <;> (first | omega | rfl | assumption | decide | exact Or.inl rfl | exact Or.inr rfl | (simp only; omega)))) _ (lv_sub hl [1, 2, 3, 4, 5, 6, 0, 0] rfl)
                    · skip
                      have c_178' : r_177.toInt = 0 := jb_ne_n (rfl) ((by decide)) c_178
                      refine lv_aload_n hx hb dX10_scan_162 rfl (lv_at hl 2 rfl) ?_
                      refine lv_iload hx hb dX10_scan_163 (lv_at hl 6 rfl) ?_
                      refine j7_iald hx hb hK hh_11 hB101 1 rfl (by decide) hg_r1 (x := v5_5.toInt) (rfl) (by omega) dX10_scan_165 (fun z_179 (hz_179 : True) => ?_)
                      refine lv_bipush (v := 46) hx hb dX10_scan_166 (by decide) ?_
                      refine lv_icmp_ne (tgt := 178) hx hb dX10_scan_168 (by decide) (fun c_180 => ?_) (fun c_180 => ?_)
                      · skip
                        have c_180' : z_179.toInt ≠ 46 := jb_ne (rfl) ((by decide)) c_180
                        refine lv_aload_n hx hb dX10_scan_178 rfl (lv_at hl 2 rfl) ?_
                        refine lv_iload hx hb dX10_scan_179 (lv_at hl 6 rfl) ?_
                        refine j7_iald hx hb hK hh_11 hB101 1 rfl (by decide) hg_r1 (x := v5_5.toInt) (rfl) (by omega) dX10_scan_181 (fun z_181 (hz_181 : True) => ?_)
                        refine lv_sipush (v := 128) hx hb dX10_scan_182 (by decide) ?_
                        refine lv_icmp_ge (tgt := 205) hx hb dX10_scan_185 (by decide) (fun c_182 => ?_) (fun c_182 => ?_)
                        · skip
                          have c_182' : z_181.toInt ≥ 128 := jb_ge (rfl) ((by decide)) c_182
                          refine lv_iconst (v := 0) hx hb dX10_scan_205 (by decide) ?_
                          refine lv_istore (lv' := [(7, .int 0), (6, .int z_10), (0, .ref r0), (1, .ref r1), (2, .int a2), (3, .int a3), (4, .int z_3), (5, .int v5_5)]) hx hb dX10_scan_206 hl (by decide) rfl (fun ls hl => ?_)
                          refine lv_aload_n hx hb dX10_scan_208 rfl (lv_at hl 2 rfl) ?_
                          refine lv_iload hx hb dX10_scan_209 (lv_at hl 0 rfl) ?_
                          refine lv_if_eq (tgt := 221) hx hb dX10_scan_211 (by decide) (fun c_183 => ?_) (fun c_183 => ?_)
                          · skip
                            refine lv_iconst (v := 0) hx hb dX10_scan_221 (by decide) ?_
                            refine lv_iconst (v := 0) hx hb dX10_scan_222 (by decide) ?_
                            obtain ⟨v_186, hv_186, hh_187⟩ := hh_11.pin (C := RX10) (T := TX10) (N := 11) hB12 rfl (by decide) hg_r0 (i := 3) (by decide) rfl
                            obtain ⟨tokens_188, rfl, hlotokens_188, hhitokens_188⟩ := hv_186
                            refine va_callv (A0 := jA base) (H0 := s.heap) (va_runV (As := [.int 0, .int 0]) (rest := []) ⟨hx, hb, hml, hown, hts⟩ (uX10_add l dC dI ca base B hB hAp hB12 hB101 G0 H_11 r0 0 0 tokens_188) (cwV 2 hts (jgV (jWr_37 _ (List.mem_of_getElem? (i := 7) rfl)) (jWr_37 _ (List.mem_of_getElem? (i := 8) rfl)) (jWr_37 _ (List.mem_of_getElem? (i := 9) rfl)) (jWr_4 _ (List.mem_of_getElem? (i := 14) rfl)) (jWr_37 _ (List.mem_of_getElem? (i := 10) rfl))) rfl rfl rfl (by decide +kernel) ⟨by rw [← hR]; exact Nat.le_of_ble_eq_true rfl, by rw [← hR]; exact Nat.le_of_ble_eq_true rfl⟩) ⟨fun a U g mk q => by obtain ⟨q0, q1, q2, qK, q10, q11, q12⟩ := q; exact ⟨q0, q1, q2, jG.calling g mk a qK, q10, q11, q12⟩, hh_187.recv (C := RX10) (T := TX10) (N := 11) hB12 rfl (by decide) hg_r0 hK, fun U hU hW => ⟨rfl, hU, hh_187.2.1, hG.step hW hU hh_187.1, hg_r0, (hh_187.2.2.1.sub (L1 := [(r0, 12, 3, .int tokens_188)]) [0] rfl), by first | omega | (refine ⟨?_, ?_⟩ <;> (first | omega | rfl | assumption | decide | exact Or.inl rfl | exact Or.inr rfl | (simp only; omega)))⟩⟩ rfl rfl hl.1 rfl (lv_room (Nat.le_of_ble_eq_true rfl)) dX10_scan_223 ⟨Nat.zero_le _, Nat.zero_le _⟩) hh_187.1 (fun q _ h => h) (fun q h => h) (fun u_184 t_184 H_184 locs_184 ht_184 hvm_184 hr_185 hb_184 hz_184 hk_184 hS_184 => ?_)
                            obtain ⟨qk_184, rfl⟩ : ∃ z, z = u_184 := ⟨_, rfl⟩
                            rw [ht_184] at hb_184
                            obtain ⟨hb_1841, hb_1842, hb_1843, hb_1844, hb_1845⟩ := hb_184
                            have hh_184 : jSt (dC, dI) B base G0 G0 EX10_scan s.heap 0 0 [(r0, 12, 3, .int qk_184)] [] [] H_184 locs_184 := ((hh_187.call hb_1841 hb_1842 hb_1843 hb_1844 hS_184 rfl (L1 := []) [] rfl rfl (M1 := []) [] rfl rfl (I1 := []) [] rfl rfl).more hb_1845)
                            clear hh_187 ht_184 hvm_184 hz_184 hk_184 hS_184 hb_1841 hb_1842 hb_1843 hb_1844 hb_1845
                            obtain ⟨hr_185_0, hr_185_1, hr_185_2⟩ := hr_185
                            exact C226 z_10 z_10 _ _ (hh_184.sub (L1 := []) [] rfl (M1 := []) [] rfl (I1 := []) [] rfl) (by first | omega | (refine ⟨?_, ?_⟩ <;> (first | omega | rfl | assumption | decide | exact Or.inl rfl | exact Or.inr rfl | (simp only; omega)))) _ (lv_sub hl [2, 3, 4, 5, 6, 7, 1, 1] rfl)
                          · skip
                            exact absurd c_183 (by decide)
                        · skip
                          have c_182' : z_181.toInt < 128 := jb_ge_n (rfl) ((by decide)) c_182
                          refine va_ldcS hx hb hown rstr66 dX10_scan_188 ?_
                          refine lv_aload_n hx hb dX10_scan_190 rfl (lv_at hl 2 rfl) ?_
                          refine lv_iload hx hb dX10_scan_191 (lv_at hl 6 rfl) ?_
                          refine j7_iald hx hb hK hh_11 hB101 1 rfl (by decide) hg_r1 (x := v5_5.toInt) (rfl) (by omega) dX10_scan_193 (fun z_189 (hz_189 : True) => ?_)
                          refine lv_i2c hx hb dX10_scan_194 rfl ?_
                          refine lv_topi (fun z_190 ez_190 => ?_)
                          refine vp_callSi (W.runV (As := [.int z_190]) (rest := []) ⟨hx, hb, hml, hown, hts⟩ (wJ0_indexOf_0f7a4 l dC dI ca base H_11 str66 8 z_190) (cwV 1 hts (jgV (jWr_37 _ (List.mem_of_getElem? (i := 11) rfl)) (jWr_37 _ (List.mem_of_getElem? (i := 12) rfl)) (jWr_37 _ (List.mem_of_getElem? (i := 13) rfl)) (jWr_5 _ (List.mem_of_getElem? (i := 15) rfl)) (jWr_37 _ (List.mem_of_getElem? (i := 14) rfl))) rfl rfl rfl (by decide +kernel) ⟨by rw [← hR]; exact Nat.le_of_ble_eq_true rfl, by rw [← hR]; exact Nat.le_of_ble_eq_true rfl⟩) ⟨fun a U g mk q => by obtain ⟨q0, q1, q2, qK, q9⟩ := q; exact ⟨q0, q1, (q2.moved (Vm.Alike.refl U.vm)), jG.calling g mk a qK, q9⟩, jStr_recv hstr66 hh_11.1, fun U hU hW => ⟨rfl, hU, (hstr66.moved hW.alike).kept hh_11.1.2.1, hG.step hW hU hh_11.1, by omega⟩⟩ rfl rfl hl.1 rfl (lv_room (Nat.le_of_ble_eq_true rfl)) dX10_scan_195 ⟨Nat.zero_le _, Nat.zero_le _⟩) (fun r_191 hr_191 => ?_)
                          refine lv_if_lt (tgt := 205) hx hb dX10_scan_198 (by decide) (fun c_192 => ?_) (fun c_192 => ?_)
                          · skip
                            have c_192' : r_191.toInt < 0 := jb_lt (rfl) ((by decide)) c_192
                            refine lv_iconst (v := 0) hx hb dX10_scan_205 (by decide) ?_
                            refine lv_istore (lv' := [(7, .int 0), (6, .int z_10), (0, .ref r0), (1, .ref r1), (2, .int a2), (3, .int a3), (4, .int z_3), (5, .int v5_5)]) hx hb dX10_scan_206 hl (by decide) rfl (fun ls hl => ?_)
                            refine lv_aload_n hx hb dX10_scan_208 rfl (lv_at hl 2 rfl) ?_
                            refine lv_iload hx hb dX10_scan_209 (lv_at hl 0 rfl) ?_
                            refine lv_if_eq (tgt := 221) hx hb dX10_scan_211 (by decide) (fun c_193 => ?_) (fun c_193 => ?_)
                            · skip
                              refine lv_iconst (v := 0) hx hb dX10_scan_221 (by decide) ?_
                              refine lv_iconst (v := 0) hx hb dX10_scan_222 (by decide) ?_
                              obtain ⟨v_196, hv_196, hh_197⟩ := hh_11.pin (C := RX10) (T := TX10) (N := 11) hB12 rfl (by decide) hg_r0 (i := 3) (by decide) rfl
                              obtain ⟨tokens_198, rfl, hlotokens_198, hhitokens_198⟩ := hv_196
                              refine va_callv (A0 := jA base) (H0 := s.heap) (va_runV (As := [.int 0, .int 0]) (rest := []) ⟨hx, hb, hml, hown, hts⟩ (uX10_add l dC dI ca base B hB hAp hB12 hB101 G0 H_11 r0 0 0 tokens_198) (cwV 2 hts (jgV (jWr_37 _ (List.mem_of_getElem? (i := 7) rfl)) (jWr_37 _ (List.mem_of_getElem? (i := 8) rfl)) (jWr_37 _ (List.mem_of_getElem? (i := 9) rfl)) (jWr_4 _ (List.mem_of_getElem? (i := 14) rfl)) (jWr_37 _ (List.mem_of_getElem? (i := 10) rfl))) rfl rfl rfl (by decide +kernel) ⟨by rw [← hR]; exact Nat.le_of_ble_eq_true rfl, by rw [← hR]; exact Nat.le_of_ble_eq_true rfl⟩) ⟨fun a U g mk q => by obtain ⟨q0, q1, q2, qK, q10, q11, q12⟩ := q; exact ⟨q0, q1, q2, jG.calling g mk a qK, q10, q11, q12⟩, hh_197.recv (C := RX10) (T := TX10) (N := 11) hB12 rfl (by decide) hg_r0 hK, fun U hU hW => ⟨rfl, hU, hh_197.2.1, hG.step hW hU hh_197.1, hg_r0, (hh_197.2.2.1.sub (L1 := [(r0, 12, 3, .int tokens_198)]) [0] rfl), by first | omega | (refine ⟨?_, ?_⟩ <;> (first | omega | rfl | assumption | decide | exact Or.inl rfl | exact Or.inr rfl | (simp only; omega)))⟩⟩ rfl rfl hl.1 rfl (lv_room (Nat.le_of_ble_eq_true rfl)) dX10_scan_223 ⟨Nat.zero_le _, Nat.zero_le _⟩) hh_197.1 (fun q _ h => h) (fun q h => h) (fun u_194 t_194 H_194 locs_194 ht_194 hvm_194 hr_195 hb_194 hz_194 hk_194 hS_194 => ?_)
                              obtain ⟨qk_194, rfl⟩ : ∃ z, z = u_194 := ⟨_, rfl⟩
                              rw [ht_194] at hb_194
                              obtain ⟨hb_1941, hb_1942, hb_1943, hb_1944, hb_1945⟩ := hb_194
                              have hh_194 : jSt (dC, dI) B base G0 G0 EX10_scan s.heap 0 0 [(r0, 12, 3, .int qk_194)] [] [] H_194 locs_194 := ((hh_197.call hb_1941 hb_1942 hb_1943 hb_1944 hS_194 rfl (L1 := []) [] rfl rfl (M1 := []) [] rfl rfl (I1 := []) [] rfl rfl).more hb_1945)
                              clear hh_197 ht_194 hvm_194 hz_194 hk_194 hS_194 hb_1941 hb_1942 hb_1943 hb_1944 hb_1945
                              obtain ⟨hr_195_0, hr_195_1, hr_195_2⟩ := hr_195
                              exact C226 z_10 z_10 _ _ (hh_194.sub (L1 := []) [] rfl (M1 := []) [] rfl (I1 := []) [] rfl) (by first | omega | (refine ⟨?_, ?_⟩ <;> (first | omega | rfl | assumption | decide | exact Or.inl rfl | exact Or.inr rfl | (simp only; omega)))) _ (lv_sub hl [2, 3, 4, 5, 6, 7, 1, 1] rfl)
                            · skip
                              exact absurd c_193 (by decide)
                          · skip
                            have c_192' : r_191.toInt ≥ 0 := jb_lt_n (rfl) ((by decide)) c_192
                            refine lv_iconst (v := 1) hx hb dX10_scan_201 (by decide) ?_
                            refine lv_goto (tgt := 206) hx hb dX10_scan_202 (by decide) ?_
                            refine lv_istore (lv' := [(7, .int 1), (6, .int z_10), (0, .ref r0), (1, .ref r1), (2, .int a2), (3, .int a3), (4, .int z_3), (5, .int v5_5)]) hx hb dX10_scan_206 hl (by decide) rfl (fun ls hl => ?_)
                            refine lv_aload_n hx hb dX10_scan_208 rfl (lv_at hl 2 rfl) ?_
                            refine lv_iload hx hb dX10_scan_209 (lv_at hl 0 rfl) ?_
                            refine lv_if_eq (tgt := 221) hx hb dX10_scan_211 (by decide) (fun c_199 => ?_) (fun c_199 => ?_)
                            · skip
                              exact absurd c_199 (by decide)
                            · skip
                              refine lv_aload_n hx hb dX10_scan_214 rfl (lv_at hl 3 rfl) ?_
                              refine lv_iload hx hb dX10_scan_215 (lv_at hl 7 rfl) ?_
                              refine j7_iald hx hb hK hh_11 hB101 1 rfl (by decide) hg_r1 (x := v5_5.toInt) (rfl) (by omega) dX10_scan_217 (fun z_200 (hz_200 : True) => ?_)
                              refine lv_goto (tgt := 222) hx hb dX10_scan_218 (by decide) ?_
                              refine lv_iconst (v := 0) hx hb dX10_scan_222 (by decide) ?_
                              obtain ⟨v_203, hv_203, hh_204⟩ := hh_11.pin (C := RX10) (T := TX10) (N := 11) hB12 rfl (by decide) hg_r0 (i := 3) (by decide) rfl
                              obtain ⟨tokens_205, rfl, hlotokens_205, hhitokens_205⟩ := hv_203
                              refine va_callv (A0 := jA base) (H0 := s.heap) (va_runV (As := [.int z_200, .int 0]) (rest := []) ⟨hx, hb, hml, hown, hts⟩ (uX10_add l dC dI ca base B hB hAp hB12 hB101 G0 H_11 r0 z_200 0 tokens_205) (cwV 2 hts (jgV (jWr_37 _ (List.mem_of_getElem? (i := 7) rfl)) (jWr_37 _ (List.mem_of_getElem? (i := 8) rfl)) (jWr_37 _ (List.mem_of_getElem? (i := 9) rfl)) (jWr_4 _ (List.mem_of_getElem? (i := 14) rfl)) (jWr_37 _ (List.mem_of_getElem? (i := 10) rfl))) rfl rfl rfl (by decide +kernel) ⟨by rw [← hR]; exact Nat.le_of_ble_eq_true rfl, by rw [← hR]; exact Nat.le_of_ble_eq_true rfl⟩) ⟨fun a U g mk q => by obtain ⟨q0, q1, q2, qK, q10, q11, q12⟩ := q; exact ⟨q0, q1, q2, jG.calling g mk a qK, q10, q11, q12⟩, hh_204.recv (C := RX10) (T := TX10) (N := 11) hB12 rfl (by decide) hg_r0 hK, fun U hU hW => ⟨rfl, hU, hh_204.2.1, hG.step hW hU hh_204.1, hg_r0, (hh_204.2.2.1.sub (L1 := [(r0, 12, 3, .int tokens_205)]) [0] rfl), by first | omega | (refine ⟨?_, ?_⟩ <;> (first | omega | rfl | assumption | decide | exact Or.inl rfl | exact Or.inr rfl | (simp only; omega)))⟩⟩ rfl rfl hl.1 rfl (lv_room (Nat.le_of_ble_eq_true rfl)) dX10_scan_223 ⟨Nat.zero_le _, Nat.zero_le _⟩) hh_204.1 (fun q _ h => h) (fun q h => h) (fun u_201 t_201 H_201 locs_201 ht_201 hvm_201 hr_202 hb_201 hz_201 hk_201 hS_201 => ?_)
                              obtain ⟨qk_201, rfl⟩ : ∃ z, z = u_201 := ⟨_, rfl⟩
                              rw [ht_201] at hb_201
                              obtain ⟨hb_2011, hb_2012, hb_2013, hb_2014, hb_2015⟩ := hb_201
                              have hh_201 : jSt (dC, dI) B base G0 G0 EX10_scan s.heap 0 0 [(r0, 12, 3, .int qk_201)] [] [] H_201 locs_201 := ((hh_204.call hb_2011 hb_2012 hb_2013 hb_2014 hS_201 rfl (L1 := []) [] rfl rfl (M1 := []) [] rfl rfl (I1 := []) [] rfl rfl).more hb_2015)
                              clear hh_204 ht_201 hvm_201 hz_201 hk_201 hS_201 hb_2011 hb_2012 hb_2013 hb_2014 hb_2015
                              obtain ⟨hr_202_0, hr_202_1, hr_202_2⟩ := hr_202
                              exact C226 z_10 z_10 _ _ (hh_201.sub (L1 := []) [] rfl (M1 := []) [] rfl (I1 := []) [] rfl) (by first | omega | (refine ⟨?_, ?_⟩ <;> (first | omega | rfl | assumption | decide | exact Or.inl rfl | exact Or.inr rfl | (simp only; omega)))) _ (lv_sub hl [2, 3, 4, 5, 6, 7, 1, 1] rfl)
                      · skip
                        have c_180' : z_179.toInt = 46 := jb_ne_n (rfl) ((by decide)) c_180
                        refine lv_iload hx hb dX10_scan_171 (lv_at hl 0 rfl) ?_
                        refine lv_iload hx hb dX10_scan_173 (lv_at hl 5 rfl) ?_
                        refine lv_icmp_eq (tgt := 201) hx hb dX10_scan_175 (by decide) (fun c_206 => ?_) (fun c_206 => ?_)
                        · skip
                          have c_206' : z_10.toInt = z_3.toInt := jb_eq (rfl) (rfl) c_206
                          refine lv_iconst (v := 1) hx hb dX10_scan_201 (by decide) ?_
                          refine lv_goto (tgt := 206) hx hb dX10_scan_202 (by decide) ?_
                          refine lv_istore (lv' := [(7, .int 1), (6, .int z_10), (0, .ref r0), (1, .ref r1), (2, .int a2), (3, .int a3), (4, .int z_3), (5, .int v5_5)]) hx hb dX10_scan_206 hl (by decide) rfl (fun ls hl => ?_)
                          refine lv_aload_n hx hb dX10_scan_208 rfl (lv_at hl 2 rfl) ?_
                          refine lv_iload hx hb dX10_scan_209 (lv_at hl 0 rfl) ?_
                          refine lv_if_eq (tgt := 221) hx hb dX10_scan_211 (by decide) (fun c_207 => ?_) (fun c_207 => ?_)
                          · skip
                            exact absurd c_207 (by decide)
                          · skip
                            refine lv_aload_n hx hb dX10_scan_214 rfl (lv_at hl 3 rfl) ?_
                            refine lv_iload hx hb dX10_scan_215 (lv_at hl 7 rfl) ?_
                            refine j7_iald hx hb hK hh_11 hB101 1 rfl (by decide) hg_r1 (x := v5_5.toInt) (rfl) (by omega) dX10_scan_217 (fun z_208 (hz_208 : True) => ?_)
                            refine lv_goto (tgt := 222) hx hb dX10_scan_218 (by decide) ?_
                            refine lv_iconst (v := 0) hx hb dX10_scan_222 (by decide) ?_
                            obtain ⟨v_211, hv_211, hh_212⟩ := hh_11.pin (C := RX10) (T := TX10) (N := 11) hB12 rfl (by decide) hg_r0 (i := 3) (by decide) rfl
                            obtain ⟨tokens_213, rfl, hlotokens_213, hhitokens_213⟩ := hv_211
                            refine va_callv (A0 := jA base) (H0 := s.heap) (va_runV (As := [.int z_208, .int 0]) (rest := []) ⟨hx, hb, hml, hown, hts⟩ (uX10_add l dC dI ca base B hB hAp hB12 hB101 G0 H_11 r0 z_208 0 tokens_213) (cwV 2 hts (jgV (jWr_37 _ (List.mem_of_getElem? (i := 7) rfl)) (jWr_37 _ (List.mem_of_getElem? (i := 8) rfl)) (jWr_37 _ (List.mem_of_getElem? (i := 9) rfl)) (jWr_4 _ (List.mem_of_getElem? (i := 14) rfl)) (jWr_37 _ (List.mem_of_getElem? (i := 10) rfl))) rfl rfl rfl (by decide +kernel) ⟨by rw [← hR]; exact Nat.le_of_ble_eq_true rfl, by rw [← hR]; exact Nat.le_of_ble_eq_true rfl⟩) ⟨fun a U g mk q => by obtain ⟨q0, q1, q2, qK, q10, q11, q12⟩ := q; exact ⟨q0, q1, q2, jG.calling g mk a qK, q10, q11, q12⟩, hh_212.recv (C := RX10) (T := TX10) (N := 11) hB12 rfl (by decide) hg_r0 hK, fun U hU hW => ⟨rfl, hU, hh_212.2.1, hG.step hW hU hh_212.1, hg_r0, (hh_212.2.2.1.sub (L1 := [(r0, 12, 3, .int tokens_213)]) [0] rfl), by first | omega | (refine ⟨?_, ?_⟩ <;> (first | omega | rfl | assumption | decide | exact Or.inl rfl | exact Or.inr rfl | (simp only; omega)))⟩⟩ rfl rfl hl.1 rfl (lv_room (Nat.le_of_ble_eq_true rfl)) dX10_scan_223 ⟨Nat.zero_le _, Nat.zero_le _⟩) hh_212.1 (fun q _ h => h) (fun q h => h) (fun u_209 t_209 H_209 locs_209 ht_209 hvm_209 hr_210 hb_209 hz_209 hk_209 hS_209 => ?_)
                            obtain ⟨qk_209, rfl⟩ : ∃ z, z = u_209 := ⟨_, rfl⟩
                            rw [ht_209] at hb_209
                            obtain ⟨hb_2091, hb_2092, hb_2093, hb_2094, hb_2095⟩ := hb_209
                            have hh_209 : jSt (dC, dI) B base G0 G0 EX10_scan s.heap 0 0 [(r0, 12, 3, .int qk_209)] [] [] H_209 locs_209 := ((hh_212.call hb_2091 hb_2092 hb_2093 hb_2094 hS_209 rfl (L1 := []) [] rfl rfl (M1 := []) [] rfl rfl (I1 := []) [] rfl rfl).more hb_2095)
                            clear hh_212 ht_209 hvm_209 hz_209 hk_209 hS_209 hb_2091 hb_2092 hb_2093 hb_2094 hb_2095
                            obtain ⟨hr_210_0, hr_210_1, hr_210_2⟩ := hr_210
                            exact C226 z_10 z_10 _ _ (hh_209.sub (L1 := []) [] rfl (M1 := []) [] rfl (I1 := []) [] rfl) (by first | omega | (refine ⟨?_, ?_⟩ <;> (first | omega | rfl | assumption | decide | exact Or.inl rfl | exact Or.inr rfl | (simp only; omega)))) _ (lv_sub hl [2, 3, 4, 5, 6, 7, 1, 1] rfl)
                        · skip
                          have c_206' : z_10.toInt ≠ z_3.toInt := jb_eq_n (rfl) (rfl) c_206
                          refine lv_aload_n hx hb dX10_scan_178 rfl (lv_at hl 2 rfl) ?_
                          refine lv_iload hx hb dX10_scan_179 (lv_at hl 6 rfl) ?_
                          refine j7_iald hx hb hK hh_11 hB101 1 rfl (by decide) hg_r1 (x := v5_5.toInt) (rfl) (by omega) dX10_scan_181 (fun z_214 (hz_214 : True) => ?_)
                          refine lv_sipush (v := 128) hx hb dX10_scan_182 (by decide) ?_
                          refine lv_icmp_ge (tgt := 205) hx hb dX10_scan_185 (by decide) (fun c_215 => ?_) (fun c_215 => ?_)
                          · skip
                            have c_215' : z_214.toInt ≥ 128 := jb_ge (rfl) ((by decide)) c_215
                            refine lv_iconst (v := 0) hx hb dX10_scan_205 (by decide) ?_
                            refine lv_istore (lv' := [(7, .int 0), (6, .int z_10), (0, .ref r0), (1, .ref r1), (2, .int a2), (3, .int a3), (4, .int z_3), (5, .int v5_5)]) hx hb dX10_scan_206 hl (by decide) rfl (fun ls hl => ?_)
                            refine lv_aload_n hx hb dX10_scan_208 rfl (lv_at hl 2 rfl) ?_
                            refine lv_iload hx hb dX10_scan_209 (lv_at hl 0 rfl) ?_
                            refine lv_if_eq (tgt := 221) hx hb dX10_scan_211 (by decide) (fun c_216 => ?_) (fun c_216 => ?_)
                            · skip
                              refine lv_iconst (v := 0) hx hb dX10_scan_221 (by decide) ?_
                              refine lv_iconst (v := 0) hx hb dX10_scan_222 (by decide) ?_
                              obtain ⟨v_219, hv_219, hh_220⟩ := hh_11.pin (C := RX10) (T := TX10) (N := 11) hB12 rfl (by decide) hg_r0 (i := 3) (by decide) rfl
                              obtain ⟨tokens_221, rfl, hlotokens_221, hhitokens_221⟩ := hv_219
                              refine va_callv (A0 := jA base) (H0 := s.heap) (va_runV (As := [.int 0, .int 0]) (rest := []) ⟨hx, hb, hml, hown, hts⟩ (uX10_add l dC dI ca base B hB hAp hB12 hB101 G0 H_11 r0 0 0 tokens_221) (cwV 2 hts (jgV (jWr_37 _ (List.mem_of_getElem? (i := 7) rfl)) (jWr_37 _ (List.mem_of_getElem? (i := 8) rfl)) (jWr_37 _ (List.mem_of_getElem? (i := 9) rfl)) (jWr_4 _ (List.mem_of_getElem? (i := 14) rfl)) (jWr_37 _ (List.mem_of_getElem? (i := 10) rfl))) rfl rfl rfl (by decide +kernel) ⟨by rw [← hR]; exact Nat.le_of_ble_eq_true rfl, by rw [← hR]; exact Nat.le_of_ble_eq_true rfl⟩) ⟨fun a U g mk q => by obtain ⟨q0, q1, q2, qK, q10, q11, q12⟩ := q; exact ⟨q0, q1, q2, jG.calling g mk a qK, q10, q11, q12⟩, hh_220.recv (C := RX10) (T := TX10) (N := 11) hB12 rfl (by decide) hg_r0 hK, fun U hU hW => ⟨rfl, hU, hh_220.2.1, hG.step hW hU hh_220.1, hg_r0, (hh_220.2.2.1.sub (L1 := [(r0, 12, 3, .int tokens_221)]) [0] rfl), by first | omega | (refine ⟨?_, ?_⟩ <;> (first | omega | rfl | assumption | decide | exact Or.inl rfl | exact Or.inr rfl | (simp only; omega)))⟩⟩ rfl rfl hl.1 rfl (lv_room (Nat.le_of_ble_eq_true rfl)) dX10_scan_223 ⟨Nat.zero_le _, Nat.zero_le _⟩) hh_220.1 (fun q _ h => h) (fun q h => h) (fun u_217 t_217 H_217 locs_217 ht_217 hvm_217 hr_218 hb_217 hz_217 hk_217 hS_217 => ?_)
                              obtain ⟨qk_217, rfl⟩ : ∃ z, z = u_217 := ⟨_, rfl⟩
                              rw [ht_217] at hb_217
                              obtain ⟨hb_2171, hb_2172, hb_2173, hb_2174, hb_2175⟩ := hb_217
                              have hh_217 : jSt (dC, dI) B base G0 G0 EX10_scan s.heap 0 0 [(r0, 12, 3, .int qk_217)] [] [] H_217 locs_217 := ((hh_220.call hb_2171 hb_2172 hb_2173 hb_2174 hS_217 rfl (L1 := []) [] rfl rfl (M1 := []) [] rfl rfl (I1 := []) [] rfl rfl).more hb_2175)
                              clear hh_220 ht_217 hvm_217 hz_217 hk_217 hS_217 hb_2171 hb_2172 hb_2173 hb_2174 hb_2175
                              obtain ⟨hr_218_0, hr_218_1, hr_218_2⟩ := hr_218
                              exact C226 z_10 z_10 _ _ (hh_217.sub (L1 := []) [] rfl (M1 := []) [] rfl (I1 := []) [] rfl) (by first | omega | (refine ⟨?_, ?_⟩ <;> (first | omega | rfl | assumption | decide | exact Or.inl rfl | exact Or.inr rfl | (simp only; omega)))) _ (lv_sub hl [2, 3, 4, 5, 6, 7, 1, 1] rfl)
                            · skip
                              exact absurd c_216 (by decide)
                          · skip
                            have c_215' : z_214.toInt < 128 := jb_ge_n (rfl) ((by decide)) c_215
                            refine va_ldcS hx hb hown rstr66 dX10_scan_188 ?_
                            refine lv_aload_n hx hb dX10_scan_190 rfl (lv_at hl 2 rfl) ?_
                            refine lv_iload hx hb dX10_scan_191 (lv_at hl 6 rfl) ?_
                            refine j7_iald hx hb hK hh_11 hB101 1 rfl (by decide) hg_r1 (x := v5_5.toInt) (rfl) (by omega) dX10_scan_193 (fun z_222 (hz_222 : True) => ?_)
                            refine lv_i2c hx hb dX10_scan_194 rfl ?_
                            refine lv_topi (fun z_223 ez_223 => ?_)
                            refine vp_callSi (W.runV (As := [.int z_223]) (rest := []) ⟨hx, hb, hml, hown, hts⟩ (wJ0_indexOf_0f7a4 l dC dI ca base H_11 str66 8 z_223) (cwV 1 hts (jgV (jWr_37 _ (List.mem_of_getElem? (i := 11) rfl)) (jWr_37 _ (List.mem_of_getElem? (i := 12) rfl)) (jWr_37 _ (List.mem_of_getElem? (i := 13) rfl)) (jWr_5 _ (List.mem_of_getElem? (i := 15) rfl)) (jWr_37 _ (List.mem_of_getElem? (i := 14) rfl))) rfl rfl rfl (by decide +kernel) ⟨by rw [← hR]; exact Nat.le_of_ble_eq_true rfl, by rw [← hR]; exact Nat.le_of_ble_eq_true rfl⟩) ⟨fun a U g mk q => by obtain ⟨q0, q1, q2, qK, q9⟩ := q; exact ⟨q0, q1, (q2.moved (Vm.Alike.refl U.vm)), jG.calling g mk a qK, q9⟩, jStr_recv hstr66 hh_11.1, fun U hU hW => ⟨rfl, hU, (hstr66.moved hW.alike).kept hh_11.1.2.1, hG.step hW hU hh_11.1, by omega⟩⟩ rfl rfl hl.1 rfl (lv_room (Nat.le_of_ble_eq_true rfl)) dX10_scan_195 ⟨Nat.zero_le _, Nat.zero_le _⟩) (fun r_224 hr_224 => ?_)
                            refine lv_if_lt (tgt := 205) hx hb dX10_scan_198 (by decide) (fun c_225 => ?_) (fun c_225 => ?_)
                            · skip
                              have c_225' : r_224.toInt < 0 := jb_lt (rfl) ((by decide)) c_225
                              refine lv_iconst (v := 0) hx hb dX10_scan_205 (by decide) ?_
                              refine lv_istore (lv' := [(7, .int 0), (6, .int z_10), (0, .ref r0), (1, .ref r1), (2, .int a2), (3, .int a3), (4, .int z_3), (5, .int v5_5)]) hx hb dX10_scan_206 hl (by decide) rfl (fun ls hl => ?_)
                              refine lv_aload_n hx hb dX10_scan_208 rfl (lv_at hl 2 rfl) ?_
                              refine lv_iload hx hb dX10_scan_209 (lv_at hl 0 rfl) ?_
                              refine lv_if_eq (tgt := 221) hx hb dX10_scan_211 (by decide) (fun c_226 => ?_) (fun c_226 => ?_)
                              · skip
                                refine lv_iconst (v := 0) hx hb dX10_scan_221 (by decide) ?_
                                refine lv_iconst (v := 0) hx hb dX10_scan_222 (by decide) ?_
                                obtain ⟨v_229, hv_229, hh_230⟩ := hh_11.pin (C := RX10) (T := TX10) (N := 11) hB12 rfl (by decide) hg_r0 (i := 3) (by decide) rfl
                                obtain ⟨tokens_231, rfl, hlotokens_231, hhitokens_231⟩ := hv_229
                                refine va_callv (A0 := jA base) (H0 := s.heap) (va_runV (As := [.int 0, .int 0]) (rest := []) ⟨hx, hb, hml, hown, hts⟩ (uX10_add l dC dI ca base B hB hAp hB12 hB101 G0 H_11 r0 0 0 tokens_231) (cwV 2 hts (jgV (jWr_37 _ (List.mem_of_getElem? (i := 7) rfl)) (jWr_37 _ (List.mem_of_getElem? (i := 8) rfl)) (jWr_37 _ (List.mem_of_getElem? (i := 9) rfl)) (jWr_4 _ (List.mem_of_getElem? (i := 14) rfl)) (jWr_37 _ (List.mem_of_getElem? (i := 10) rfl))) rfl rfl rfl (by decide +kernel) ⟨by rw [← hR]; exact Nat.le_of_ble_eq_true rfl, by rw [← hR]; exact Nat.le_of_ble_eq_true rfl⟩) ⟨fun a U g mk q => by obtain ⟨q0, q1, q2, qK, q10, q11, q12⟩ := q; exact ⟨q0, q1, q2, jG.calling g mk a qK, q10, q11, q12⟩, hh_230.recv (C := RX10) (T := TX10) (N := 11) hB12 rfl (by decide) hg_r0 hK, fun U hU hW => ⟨rfl, hU, hh_230.2.1, hG.step hW hU hh_230.1, hg_r0, (hh_230.2.2.1.sub (L1 := [(r0, 12, 3, .int tokens_231)]) [0] rfl), by first | omega | (refine ⟨?_, ?_⟩ <;> (first | omega | rfl | assumption | decide | exact Or.inl rfl | exact Or.inr rfl | (simp only; omega)))⟩⟩ rfl rfl hl.1 rfl (lv_room (Nat.le_of_ble_eq_true rfl)) dX10_scan_223 ⟨Nat.zero_le _, Nat.zero_le _⟩) hh_230.1 (fun q _ h => h) (fun q h => h) (fun u_227 t_227 H_227 locs_227 ht_227 hvm_227 hr_228 hb_227 hz_227 hk_227 hS_227 => ?_)
                                obtain ⟨qk_227, rfl⟩ : ∃ z, z = u_227 := ⟨_, rfl⟩
                                rw [ht_227] at hb_227
                                obtain ⟨hb_2271, hb_2272, hb_2273, hb_2274, hb_2275⟩ := hb_227
                                have hh_227 : jSt (dC, dI) B base G0 G0 EX10_scan s.heap 0 0 [(r0, 12, 3, .int qk_227)] [] [] H_227 locs_227 := ((hh_230.call hb_2271 hb_2272 hb_2273 hb_2274 hS_227 rfl (L1 := []) [] rfl rfl (M1 := []) [] rfl rfl (I1 := []) [] rfl rfl).more hb_2275)
                                clear hh_230 ht_227 hvm_227 hz_227 hk_227 hS_227 hb_2271 hb_2272 hb_2273 hb_2274 hb_2275
                                obtain ⟨hr_228_0, hr_228_1, hr_228_2⟩ := hr_228
                                exact C226 z_10 z_10 _ _ (hh_227.sub (L1 := []) [] rfl (M1 := []) [] rfl (I1 := []) [] rfl) (by first | omega | (refine ⟨?_, ?_⟩ <;> (first | omega | rfl | assumption | decide | exact Or.inl rfl | exact Or.inr rfl | (simp only; omega)))) _ (lv_sub hl [2, 3, 4, 5, 6, 7, 1, 1] rfl)
                              · skip
                                exact absurd c_226 (by decide)
                            · skip
                              have c_225' : r_224.toInt ≥ 0 := jb_lt_n (rfl) ((by decide)) c_225
                              refine lv_iconst (v := 1) hx hb dX10_scan_201 (by decide) ?_
                              refine lv_goto (tgt := 206) hx hb dX10_scan_202 (by decide) ?_
                              refine lv_istore (lv' := [(7, .int 1), (6, .int z_10), (0, .ref r0), (1, .ref r1), (2, .int a2), (3, .int a3), (4, .int z_3), (5, .int v5_5)]) hx hb dX10_scan_206 hl (by decide) rfl (fun ls hl => ?_)
                              refine lv_aload_n hx hb dX10_scan_208 rfl (lv_at hl 2 rfl) ?_
                              refine lv_iload hx hb dX10_scan_209 (lv_at hl 0 rfl) ?_
                              refine lv_if_eq (tgt := 221) hx hb dX10_scan_211 (by decide) (fun c_232 => ?_) (fun c_232 => ?_)
                              · skip
                                exact absurd c_232 (by decide)
                              · skip
                                refine lv_aload_n hx hb dX10_scan_214 rfl (lv_at hl 3 rfl) ?_
                                refine lv_iload hx hb dX10_scan_215 (lv_at hl 7 rfl) ?_
                                refine j7_iald hx hb hK hh_11 hB101 1 rfl (by decide) hg_r1 (x := v5_5.toInt) (rfl) (by omega) dX10_scan_217 (fun z_233 (hz_233 : True) => ?_)
                                refine lv_goto (tgt := 222) hx hb dX10_scan_218 (by decide) ?_
                                refine lv_iconst (v := 0) hx hb dX10_scan_222 (by decide) ?_
                                obtain ⟨v_236, hv_236, hh_237⟩ := hh_11.pin (C := RX10) (T := TX10) (N := 11) hB12 rfl (by decide) hg_r0 (i := 3) (by decide) rfl
                                obtain ⟨tokens_238, rfl, hlotokens_238, hhitokens_238⟩ := hv_236
                                refine va_callv (A0 := jA base) (H0 := s.heap) (va_runV (As := [.int z_233, .int 0]) (rest := []) ⟨hx, hb, hml, hown, hts⟩ (uX10_add l dC dI ca base B hB hAp hB12 hB101 G0 H_11 r0 z_233 0 tokens_238) (cwV 2 hts (jgV (jWr_37 _ (List.mem_of_getElem? (i := 7) rfl)) (jWr_37 _ (List.mem_of_getElem? (i := 8) rfl)) (jWr_37 _ (List.mem_of_getElem? (i := 9) rfl)) (jWr_4 _ (List.mem_of_getElem? (i := 14) rfl)) (jWr_37 _ (List.mem_of_getElem? (i := 10) rfl))) rfl rfl rfl (by decide +kernel) ⟨by rw [← hR]; exact Nat.le_of_ble_eq_true rfl, by rw [← hR]; exact Nat.le_of_ble_eq_true rfl⟩) ⟨fun a U g mk q => by obtain ⟨q0, q1, q2, qK, q10, q11, q12⟩ := q; exact ⟨q0, q1, q2, jG.calling g mk a qK, q10, q11, q12⟩, hh_237.recv (C := RX10) (T := TX10) (N := 11) hB12 rfl (by decide) hg_r0 hK, fun U hU hW => ⟨rfl, hU, hh_237.2.1, hG.step hW hU hh_237.1, hg_r0, (hh_237.2.2.1.sub (L1 := [(r0, 12, 3, .int tokens_238)]) [0] rfl), by first | omega | (refine ⟨?_, ?_⟩ <;> (first | omega | rfl | assumption | decide | exact Or.inl rfl | exact Or.inr rfl | (simp only; omega)))⟩⟩ rfl rfl hl.1 rfl (lv_room (Nat.le_of_ble_eq_true rfl)) dX10_scan_223 ⟨Nat.zero_le _, Nat.zero_le _⟩) hh_237.1 (fun q _ h => h) (fun q h => h) (fun u_234 t_234 H_234 locs_234 ht_234 hvm_234 hr_235 hb_234 hz_234 hk_234 hS_234 => ?_)
                                obtain ⟨qk_234, rfl⟩ : ∃ z, z = u_234 := ⟨_, rfl⟩
                                rw [ht_234] at hb_234
                                obtain ⟨hb_2341, hb_2342, hb_2343, hb_2344, hb_2345⟩ := hb_234
                                have hh_234 : jSt (dC, dI) B base G0 G0 EX10_scan s.heap 0 0 [(r0, 12, 3, .int qk_234)] [] [] H_234 locs_234 := ((hh_237.call hb_2341 hb_2342 hb_2343 hb_2344 hS_234 rfl (L1 := []) [] rfl rfl (M1 := []) [] rfl rfl (I1 := []) [] rfl rfl).more hb_2345)
                                clear hh_237 ht_234 hvm_234 hz_234 hk_234 hS_234 hb_2341 hb_2342 hb_2343 hb_2344 hb_2345
                                obtain ⟨hr_235_0, hr_235_1, hr_235_2⟩ := hr_235
                                exact C226 z_10 z_10 _ _ (hh_234.sub (L1 := []) [] rfl (M1 := []) [] rfl (I1 := []) [] rfl) (by first | omega | (refine ⟨?_, ?_⟩ <;> (first | omega | rfl | assumption | decide | exact Or.inl rfl | exact Or.inr rfl | (simp only; omega)))) _ (lv_sub hl [2, 3, 4, 5, 6, 7, 1, 1] rfl)
                  · skip
                    have c_175' : r_174.toInt ≠ 0 := jb_eq_n (rfl) ((by decide)) c_175
                    refine lv_aload_n hx hb dX10_scan_136 rfl (lv_at hl 1 rfl) ?_
                    refine lv_bipush (v := 100) hx hb dX10_scan_137 (by decide) ?_
                    refine lv_aload_n hx hb dX10_scan_139 rfl (lv_at hl 2 rfl) ?_
                    refine lv_iload hx hb dX10_scan_140 (lv_at hl 6 rfl) ?_
                    refine j7_iald hx hb hK hh_11 hB101 1 rfl (by decide) hg_r1 (x := v5_5.toInt) (rfl) (by omega) dX10_scan_142 (fun z_239 (hz_239 : True) => ?_)
                    refine lv_bipush (v := 48) hx hb dX10_scan_143 (by decide) ?_
                    refine lv_isub hx hb dX10_scan_145 ?_
                    refine lv_topi (fun z_240 ez_240 => ?_)
                    obtain ⟨v_243, hv_243, hh_244⟩ := hh_11.pin (C := RX10) (T := TX10) (N := 11) hB12 rfl (by decide) hg_r0 (i := 3) (by decide) rfl
                    obtain ⟨tokens_245, rfl, hlotokens_245, hhitokens_245⟩ := hv_243
                    refine va_callv (A0 := jA base) (H0 := s.heap) (va_runV (As := [.int 100, .int z_240]) (rest := []) ⟨hx, hb, hml, hown, hts⟩ (uX10_add l dC dI ca base B hB hAp hB12 hB101 G0 H_11 r0 100 z_240 tokens_245) (cwV 2 hts (jgV (jWr_37 _ (List.mem_of_getElem? (i := 7) rfl)) (jWr_37 _ (List.mem_of_getElem? (i := 8) rfl)) (jWr_37 _ (List.mem_of_getElem? (i := 9) rfl)) (jWr_4 _ (List.mem_of_getElem? (i := 14) rfl)) (jWr_37 _ (List.mem_of_getElem? (i := 10) rfl))) rfl rfl rfl (by decide +kernel) ⟨by rw [← hR]; exact Nat.le_of_ble_eq_true rfl, by rw [← hR]; exact Nat.le_of_ble_eq_true rfl⟩) ⟨fun a U g mk q => by obtain ⟨q0, q1, q2, qK, q10, q11, q12⟩ := q; exact ⟨q0, q1, q2, jG.calling g mk a qK, q10, q11, q12⟩, hh_244.recv (C := RX10) (T := TX10) (N := 11) hB12 rfl (by decide) hg_r0 hK, fun U hU hW => ⟨rfl, hU, hh_244.2.1, hG.step hW hU hh_244.1, hg_r0, (hh_244.2.2.1.sub (L1 := [(r0, 12, 3, .int tokens_245)]) [0] rfl), by first | omega | (refine ⟨?_, ?_⟩ <;> (first | omega | rfl | assumption | decide | exact Or.inl rfl | exact Or.inr rfl | (simp only; omega)))⟩⟩ rfl rfl hl.1 rfl (lv_room (Nat.le_of_ble_eq_true rfl)) dX10_scan_146 ⟨Nat.zero_le _, Nat.zero_le _⟩) hh_244.1 (fun q _ h => h) (fun q h => h) (fun u_241 t_241 H_241 locs_241 ht_241 hvm_241 hr_242 hb_241 hz_241 hk_241 hS_241 => ?_)
                    obtain ⟨qk_241, rfl⟩ : ∃ z, z = u_241 := ⟨_, rfl⟩
                    rw [ht_241] at hb_241
                    obtain ⟨hb_2411, hb_2412, hb_2413, hb_2414, hb_2415⟩ := hb_241
                    have hh_241 : jSt (dC, dI) B base G0 G0 EX10_scan s.heap 0 0 [(r0, 12, 3, .int qk_241)] [] [] H_241 locs_241 := ((hh_244.call hb_2411 hb_2412 hb_2413 hb_2414 hS_241 rfl (L1 := []) [] rfl rfl (M1 := []) [] rfl rfl (I1 := []) [] rfl rfl).more hb_2415)
                    clear hh_244 ht_241 hvm_241 hz_241 hk_241 hS_241 hb_2411 hb_2412 hb_2413 hb_2414 hb_2415
                    obtain ⟨hr_242_0, hr_242_1, hr_242_2⟩ := hr_242
                    refine lv_goto (tgt := 226) hx hb dX10_scan_149 (by decide) ?_
                    exact C226 z_10 z_10 _ _ (hh_241.sub (L1 := []) [] rfl (M1 := []) [] rfl (I1 := []) [] rfl) (by first | omega | (refine ⟨?_, ?_⟩ <;> (first | omega | rfl | assumption | decide | exact Or.inl rfl | exact Or.inr rfl | (simp only; omega)))) _ (lv_sub hl [1, 2, 3, 4, 5, 6, 0, 0] rfl)
                · skip
                  have c_172' : z_171.toInt = 62 := jb_ne_n (rfl) ((by decide)) c_172
                  refine lv_aload_n hx hb dX10_scan_110 rfl (lv_at hl 1 rfl) ?_
                  refine lv_bipush (v := 62) hx hb dX10_scan_111 (by decide) ?_
                  refine lv_iconst (v := 0) hx hb dX10_scan_113 (by decide) ?_
                  obtain ⟨v_248, hv_248, hh_249⟩ := hh_11.pin (C := RX10) (T := TX10) (N := 11) hB12 rfl (by decide) hg_r0 (i := 3) (by decide) rfl
                  obtain ⟨tokens_250, rfl, hlotokens_250, hhitokens_250⟩ := hv_248
                  refine va_callv (A0 := jA base) (H0 := s.heap) (va_runV (As := [.int 62, .int 0]) (rest := []) ⟨hx, hb, hml, hown, hts⟩ (uX10_add l dC dI ca base B hB hAp hB12 hB101 G0 H_11 r0 62 0 tokens_250) (cwV 2 hts (jgV (jWr_37 _ (List.mem_of_getElem? (i := 7) rfl)) (jWr_37 _ (List.mem_of_getElem? (i := 8) rfl)) (jWr_37 _ (List.mem_of_getElem? (i := 9) rfl)) (jWr_4 _ (List.mem_of_getElem? (i := 14) rfl)) (jWr_37 _ (List.mem_of_getElem? (i := 10) rfl))) rfl rfl rfl (by decide +kernel) ⟨by rw [← hR]; exact Nat.le_of_ble_eq_true rfl, by rw [← hR]; exact Nat.le_of_ble_eq_true rfl⟩) ⟨fun a U g mk q => by obtain ⟨q0, q1, q2, qK, q10, q11, q12⟩ := q; exact ⟨q0, q1, q2, jG.calling g mk a qK, q10, q11, q12⟩, hh_249.recv (C := RX10) (T := TX10) (N := 11) hB12 rfl (by decide) hg_r0 hK, fun U hU hW => ⟨rfl, hU, hh_249.2.1, hG.step hW hU hh_249.1, hg_r0, (hh_249.2.2.1.sub (L1 := [(r0, 12, 3, .int tokens_250)]) [0] rfl), by first | omega | (refine ⟨?_, ?_⟩ <;> (first | omega | rfl | assumption | decide | exact Or.inl rfl | exact Or.inr rfl | (simp only; omega)))⟩⟩ rfl rfl hl.1 rfl (lv_room (Nat.le_of_ble_eq_true rfl)) dX10_scan_114 ⟨Nat.zero_le _, Nat.zero_le _⟩) hh_249.1 (fun q _ h => h) (fun q h => h) (fun u_246 t_246 H_246 locs_246 ht_246 hvm_246 hr_247 hb_246 hz_246 hk_246 hS_246 => ?_)
                  obtain ⟨qk_246, rfl⟩ : ∃ z, z = u_246 := ⟨_, rfl⟩
                  rw [ht_246] at hb_246
                  obtain ⟨hb_2461, hb_2462, hb_2463, hb_2464, hb_2465⟩ := hb_246
                  have hh_246 : jSt (dC, dI) B base G0 G0 EX10_scan s.heap 0 0 [(r0, 12, 3, .int qk_246)] [] [] H_246 locs_246 := ((hh_249.call hb_2461 hb_2462 hb_2463 hb_2464 hS_246 rfl (L1 := []) [] rfl rfl (M1 := []) [] rfl rfl (I1 := []) [] rfl rfl).more hb_2465)
                  clear hh_249 ht_246 hvm_246 hz_246 hk_246 hS_246 hb_2461 hb_2462 hb_2463 hb_2464 hb_2465
                  obtain ⟨hr_247_0, hr_247_1, hr_247_2⟩ := hr_247
                  refine lv_iload hx hb dX10_scan_117 (lv_at hl 6 rfl) ?_
                  refine lv_iconst (v := 2) hx hb dX10_scan_119 (by decide) ?_
                  refine lv_iadd hx hb dX10_scan_120 ?_
                  refine lv_topi (fun z_251 ez_251 => ?_)
                  have hz_251 : z_251.toInt = v5_5.toInt + 2 := by rw [ez_251]; exact jb_iadd2 (rfl) ((by decide)) (by omega)
                  refine lv_istore (lv' := [(6, .int z_251), (0, .ref r0), (1, .ref r1), (2, .int a2), (3, .int a3), (4, .int z_3), (5, .int v5_5)]) hx hb dX10_scan_121 hl (by decide) rfl (fun ls hl => ?_)
                  refine lv_goto (tgt := 226) hx hb dX10_scan_123 (by decide) ?_
                  exact C226 z_251 z_251 _ _ (hh_246.sub (L1 := []) [] rfl (M1 := []) [] rfl (I1 := []) [] rfl) (by first | omega | (refine ⟨?_, ?_⟩ <;> (first | omega | rfl | assumption | decide | exact Or.inl rfl | exact Or.inr rfl | (simp only; omega)))) _ (lv_sub hl [1, 2, 3, 4, 5, 6, 0, 0] rfl)
          · skip
            have c_19' : r_18.toInt ≠ 0 := jb_eq_n (rfl) ((by decide)) c_19
            refine lv_aload_n hx hb dX10_scan_67 rfl (lv_at hl 1 rfl) ?_
            refine lv_aload_n hx hb dX10_scan_68 rfl (lv_at hl 2 rfl) ?_
            refine lv_iload hx hb dX10_scan_69 (lv_at hl 6 rfl) ?_
            refine lv_iload hx hb dX10_scan_71 (lv_at hl 5 rfl) ?_
            refine va_calli (A0 := jA base) (H0 := s.heap) (va_runV (As := [.ref r1, .int v5_5, .int z_3]) (rest := []) ⟨hx, hb, hml, hown, hts⟩ (uX10_scanName l dC dI ca base B hB hAp hB8 hB12 hB101 hB102 hB132 hB133 G0 H_11 r0 r1 v5_5 z_3 n1) (cwV 3 hts (jgV (jWr_37 _ (List.mem_of_getElem? (i := 2) rfl)) (jWr_37 _ (List.mem_of_getElem? (i := 3) rfl)) (jWr_37 _ (List.mem_of_getElem? (i := 4) rfl)) (jWr_4 _ (List.mem_of_getElem? (i := 14) rfl)) (jWr_37 _ (List.mem_of_getElem? (i := 5) rfl))) rfl rfl rfl (by decide +kernel) ⟨by rw [← hR]; exact Nat.le_of_ble_eq_true rfl, by rw [← hR]; exact Nat.le_of_ble_eq_true rfl⟩) ⟨fun a U g mk q => by obtain ⟨q0, q1, q2, qK, q10, q11, q12, q13⟩ := q; exact ⟨q0, q1, q2, jG.calling g mk a qK, q10, q11, q12, q13⟩, hh_11.recv (C := RX10) (T := TX10) (N := 11) hB12 rfl (by decide) hg_r0 hK, fun U hU hW => ⟨rfl, hU, hh_11.2.1, hG.step hW hU hh_11.1, hg_r1, hg_r0, jP.nil, by first | omega | (refine ⟨?_, ?_, ?_, ?_⟩ <;> (first | omega | rfl | assumption | decide | exact Or.inl rfl | exact Or.inr rfl | (simp only; omega)))⟩⟩ rfl rfl hl.1 rfl (lv_room (Nat.le_of_ble_eq_true rfl)) dX10_scan_73 ⟨Nat.zero_le _, Nat.zero_le _⟩) hh_11.1 (fun q _ h => h) (fun q h => h) (fun r_253 u_252 t_252 H_252 locs_252 ht_252 hvm_252 hr_253 hb_252 hz_252 hk_252 hS_252 => ?_)
            rw [ht_252] at hb_252
            obtain ⟨hb_2521, hb_2522, hb_2523, hb_2524, hb_2525⟩ := hb_252
            have hh_252 : jSt (dC, dI) B base G0 G0 EX10_scan s.heap 0 0 [] [] [] H_252 locs_252 := ((hh_11.call hb_2521 hb_2522 hb_2523 hb_2524 hS_252 rfl (L1 := []) [] rfl rfl (M1 := []) [] rfl rfl (I1 := []) [] rfl rfl).more hb_2525)
            clear hh_11 ht_252 hvm_252 hz_252 hk_252 hS_252 hb_2521 hb_2522 hb_2523 hb_2524 hb_2525
            obtain ⟨hr_253_0, hr_253_1⟩ := hr_253
            refine lv_istore (lv' := [(6, .int r_253), (0, .ref r0), (1, .ref r1), (2, .int a2), (3, .int a3), (4, .int z_3), (5, .int v5_5)]) hx hb dX10_scan_76 hl (by decide) rfl (fun ls hl => ?_)
            refine lv_goto (tgt := 226) hx hb dX10_scan_78 (by decide) ?_
            exact C226 r_253 r_253 _ _ hh_252 (by first | omega | (refine ⟨?_, ?_⟩ <;> (first | omega | rfl | assumption | decide | exact Or.inl rfl | exact Or.inr rfl | (simp only; omega)))) _ (lv_sub hl [1, 2, 3, 4, 5, 6, 0, 0] rfl)
        · skip
          have c_16' : r_12.toInt ≠ 0 := jb_eq_n (rfl) ((by decide)) c_16
          first | (have hr_12pq := hr_12p.resolve_left (by omega); clear hr_12p) | (have hr_12pq := hr_12p.resolve_right (by omega); clear hr_12p) | try clear hr_12p
          refine lv_aload_n hx hb dX10_scan_44 rfl (lv_at hl 2 rfl) ?_
          refine lv_iload hx hb dX10_scan_45 (lv_at hl 6 rfl) ?_
          refine lv_iload hx hb dX10_scan_47 (lv_at hl 5 rfl) ?_
          refine va_calli (A0 := jA base) (H0 := s.heap) (va_runSN (As := [.ref r1, .int v5_5, .int z_3]) (rest := []) ⟨hx, hb, hml, hown, hts⟩ (uX11_commentEnd l dC dI ca base B hB hAp hB101 G0 H_11 r1 v5_5 z_3 n1) ⟨va_cnB 3 hts (jgW (jWr_36 _ (List.mem_of_getElem? (i := 11) rfl))) rfl rfl rfl (hG.2.2.1 RX10 45 yX11_commentEnd "ProofServer" (List.mem_of_getElem? (i := 1138) (by decide +kernel))) (htw (.initialized RX11) (jWr_1 _ (List.mem_of_getElem? (i := 2) rfl))) (by decide +kernel) ⟨by rw [← hR]; exact Nat.le_of_ble_eq_true rfl, by rw [← hR]; exact Nat.le_of_ble_eq_true rfl⟩, htw (.static yX11_commentEnd) (jWr_36 _ (List.mem_of_getElem? (i := 10) rfl)), trivial⟩ ⟨fun a U g mk q => by obtain ⟨q0, q1, q2, qK, q10, q11, q12⟩ := q; exact ⟨q0, q1, q2, jG.calling g mk a qK, q10, q11, q12⟩, fun U hU hW => ⟨rfl, hU, hh_11.2.1, hG.step hW hU hh_11.1, hg_r1, jP.nil, by first | omega | (refine ⟨?_, ?_⟩ <;> (first | omega | rfl | assumption | decide | exact Or.inl rfl | exact Or.inr rfl | (simp only; omega)))⟩⟩ rfl rfl hl.1 rfl (lv_room (Nat.le_of_ble_eq_true rfl)) dX10_scan_49 ⟨Nat.zero_le _, Nat.zero_le _⟩) hh_11.1 (fun q _ h => h) (fun q h => h) (fun r_255 u_254 t_254 H_254 locs_254 ht_254 hvm_254 hr_255 hb_254 hz_254 hk_254 hS_254 => ?_)
          rw [ht_254] at hb_254
          obtain ⟨hb_2541, hb_2542, hb_2543, hb_2544, hb_2545⟩ := hb_254
          have hh_254 : jSt (dC, dI) B base G0 G0 EX10_scan s.heap 0 0 [] [] [] H_254 locs_254 := ((hh_11.call hb_2541 hb_2542 hb_2543 hb_2544 hS_254 rfl (L1 := []) [] rfl rfl (M1 := []) [] rfl rfl (I1 := []) [] rfl rfl).more hb_2545)
          clear hh_11 ht_254 hvm_254 hz_254 hk_254 hS_254 hb_2541 hb_2542 hb_2543 hb_2544 hb_2545
          refine lv_istore (lv' := [(6, .int r_255), (0, .ref r0), (1, .ref r1), (2, .int a2), (3, .int a3), (4, .int z_3), (5, .int v5_5)]) hx hb dX10_scan_52 hl (by decide) rfl (fun ls hl => ?_)
          refine lv_goto (tgt := 226) hx hb dX10_scan_54 (by decide) ?_
          exact C226 r_255 r_255 _ _ hh_254 (by first | omega | (refine ⟨?_, ?_⟩ <;> (first | omega | rfl | assumption | decide | exact Or.inl rfl | exact Or.inr rfl | (simp only; omega)))) _ (lv_sub hl [1, 2, 3, 4, 5, 6, 0, 0] rfl)
  exact L20 (((z_3.toInt - (z_4 : Int32).toInt).toNat : Int) : Int).toNat.succ z_4 _ _ (hh_1.sub (L1 := []) [] rfl (M1 := []) [] rfl (I1 := []) [] rfl) (by first | omega | rfl | assumption | decide | exact Or.inl rfl | exact Or.inr rfl | (simp only; omega)) (by omega) _ (lv_sub hl [2, 3, 4, 5, 1, 0] rfl)
