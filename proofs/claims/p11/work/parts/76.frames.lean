def F4 (n : Nat) (G : jT) : List (Value → Prop) := [jRf G 100 3000, jI (-1) 3000, jIa, jIa, jZb, jIa, jI (-1) 3000, jI 0 3001, jIa, jZb, jIa, jI 0 40000]
theorem dX2_accept_0 : decode cX2_accept 0 = .ok (.aload_n 0, 1) := by decide +kernel
theorem dX2_accept_1 : decode cX2_accept 1 = .ok (.getfield 22, 3) := by decide +kernel
theorem dX2_accept_4 : decode cX2_accept 4 = .ok (.ifCond .eq 5, 3) := by decide +kernel
theorem dX2_accept_7 : decode cX2_accept 7 = .ok (.iconst 0, 1) := by decide +kernel
theorem dX2_accept_8 : decode cX2_accept 8 = .ok (.ireturn, 1) := by decide +kernel
theorem dX2_accept_9 : decode cX2_accept 9 = .ok (.aload_n 0, 1) := by decide +kernel
theorem dX2_accept_10 : decode cX2_accept 10 = .ok (.getfield 15, 3) := by decide +kernel
theorem dX2_accept_13 : decode cX2_accept 13 = .ok (.bipush 6, 2) := by decide +kernel
theorem dX2_accept_15 : decode cX2_accept 15 = .ok (.if_icmp .ne 39, 3) := by decide +kernel
theorem dX2_accept_18 : decode cX2_accept 18 = .ok (.aload_n 0, 1) := by decide +kernel
theorem dX2_accept_19 : decode cX2_accept 19 = .ok (.getfield 26, 3) := by decide +kernel
theorem dX2_accept_22 : decode cX2_accept 22 = .ok (.aload_n 0, 1) := by decide +kernel
theorem dX2_accept_23 : decode cX2_accept 23 = .ok (.getfield 9, 3) := by decide +kernel
theorem dX2_accept_26 : decode cX2_accept 26 = .ok (.arraylength, 1) := by decide +kernel
theorem dX2_accept_27 : decode cX2_accept 27 = .ok (.if_icmp .ge 14, 3) := by decide +kernel
theorem dX2_accept_30 : decode cX2_accept 30 = .ok (.aload_n 0, 1) := by decide +kernel
theorem dX2_accept_31 : decode cX2_accept 31 = .ok (.getfield 9, 3) := by decide +kernel
theorem dX2_accept_34 : decode cX2_accept 34 = .ok (.aload_n 0, 1) := by decide +kernel
theorem dX2_accept_35 : decode cX2_accept 35 = .ok (.getfield 26, 3) := by decide +kernel
theorem dX2_accept_38 : decode cX2_accept 38 = .ok (.iload_n 1, 1) := by decide +kernel
theorem dX2_accept_39 : decode cX2_accept 39 = .ok (.i2b, 1) := by decide +kernel
theorem dX2_accept_40 : decode cX2_accept 40 = .ok (.bastore, 1) := by decide +kernel
theorem dX2_accept_41 : decode cX2_accept 41 = .ok (.aload_n 0, 1) := by decide +kernel
theorem dX2_accept_42 : decode cX2_accept 42 = .ok (.dup, 1) := by decide +kernel
theorem dX2_accept_43 : decode cX2_accept 43 = .ok (.getfield 26, 3) := by decide +kernel
theorem dX2_accept_46 : decode cX2_accept 46 = .ok (.iconst 1, 1) := by decide +kernel
theorem dX2_accept_47 : decode cX2_accept 47 = .ok (.iadd, 1) := by decide +kernel
theorem dX2_accept_48 : decode cX2_accept 48 = .ok (.putfield 26, 3) := by decide +kernel
theorem dX2_accept_51 : decode cX2_accept 51 = .ok (.goto 28, 3) := by decide +kernel
theorem dX2_accept_54 : decode cX2_accept 54 = .ok (.aload_n 0, 1) := by decide +kernel
theorem dX2_accept_55 : decode cX2_accept 55 = .ok (.getfield 29, 3) := by decide +kernel
theorem dX2_accept_58 : decode cX2_accept 58 = .ok (.sipush 200, 3) := by decide +kernel
theorem dX2_accept_61 : decode cX2_accept 61 = .ok (.if_icmp .ge 11, 3) := by decide +kernel
theorem dX2_accept_64 : decode cX2_accept 64 = .ok (.aload_n 0, 1) := by decide +kernel
theorem dX2_accept_65 : decode cX2_accept 65 = .ok (.iload_n 1, 1) := by decide +kernel
theorem dX2_accept_66 : decode cX2_accept 66 = .ok (.invokevirtual 32, 3) := by decide +kernel
theorem dX2_accept_69 : decode cX2_accept 69 = .ok (.ifCond .ne 10, 3) := by decide +kernel
theorem dX2_accept_72 : decode cX2_accept 72 = .ok (.aload_n 0, 1) := by decide +kernel
theorem dX2_accept_73 : decode cX2_accept 73 = .ok (.iconst 1, 1) := by decide +kernel
theorem dX2_accept_74 : decode cX2_accept 74 = .ok (.putfield 22, 3) := by decide +kernel
theorem dX2_accept_77 : decode cX2_accept 77 = .ok (.iconst 0, 1) := by decide +kernel
theorem dX2_accept_78 : decode cX2_accept 78 = .ok (.ireturn, 1) := by decide +kernel
theorem dX2_accept_79 : decode cX2_accept 79 = .ok (.aload_n 0, 1) := by decide +kernel
theorem dX2_accept_80 : decode cX2_accept 80 = .ok (.dup, 1) := by decide +kernel
theorem dX2_accept_81 : decode cX2_accept 81 = .ok (.getfield 29, 3) := by decide +kernel
theorem dX2_accept_84 : decode cX2_accept 84 = .ok (.iconst 1, 1) := by decide +kernel
theorem dX2_accept_85 : decode cX2_accept 85 = .ok (.iadd, 1) := by decide +kernel
theorem dX2_accept_86 : decode cX2_accept 86 = .ok (.putfield 29, 3) := by decide +kernel
theorem dX2_accept_89 : decode cX2_accept 89 = .ok (.aload_n 0, 1) := by decide +kernel
theorem dX2_accept_90 : decode cX2_accept 90 = .ok (.getfield 15, 3) := by decide +kernel
theorem dX2_accept_93 : decode cX2_accept 93 = .ok (.bipush 6, 2) := by decide +kernel
theorem dX2_accept_95 : decode cX2_accept 95 = .ok (.if_icmp .ne 14, 3) := by decide +kernel
theorem dX2_accept_98 : decode cX2_accept 98 = .ok (.aload_n 0, 1) := by decide +kernel
theorem dX2_accept_99 : decode cX2_accept 99 = .ok (.getfield 26, 3) := by decide +kernel
theorem dX2_accept_102 : decode cX2_accept 102 = .ok (.aload_n 0, 1) := by decide +kernel
theorem dX2_accept_103 : decode cX2_accept 103 = .ok (.getfield 19, 3) := by decide +kernel
theorem dX2_accept_106 : decode cX2_accept 106 = .ok (.if_icmp .ge 5, 3) := by decide +kernel
theorem dX2_accept_109 : decode cX2_accept 109 = .ok (.iconst 0, 1) := by decide +kernel
theorem dX2_accept_110 : decode cX2_accept 110 = .ok (.ireturn, 1) := by decide +kernel
theorem dX2_accept_111 : decode cX2_accept 111 = .ok (.aload_n 0, 1) := by decide +kernel
theorem dX2_accept_112 : decode cX2_accept 112 = .ok (.aload_n 0, 1) := by decide +kernel
theorem dX2_accept_113 : decode cX2_accept 113 = .ok (.getfield 19, 3) := by decide +kernel
theorem dX2_accept_116 : decode cX2_accept 116 = .ok (.putfield 36, 3) := by decide +kernel
theorem dX2_accept_119 : decode cX2_accept 119 = .ok (.aload_n 0, 1) := by decide +kernel
theorem dX2_accept_120 : decode cX2_accept 120 = .ok (.iconst (-1), 1) := by decide +kernel
theorem dX2_accept_121 : decode cX2_accept 121 = .ok (.putfield 19, 3) := by decide +kernel
theorem dX2_accept_124 : decode cX2_accept 124 = .ok (.aload_n 0, 1) := by decide +kernel
theorem dX2_accept_125 : decode cX2_accept 125 = .ok (.iconst 0, 1) := by decide +kernel
theorem dX2_accept_126 : decode cX2_accept 126 = .ok (.putfield 26, 3) := by decide +kernel
theorem dX2_accept_129 : decode cX2_accept 129 = .ok (.aload_n 0, 1) := by decide +kernel
theorem dX2_accept_130 : decode cX2_accept 130 = .ok (.iconst 0, 1) := by decide +kernel
theorem dX2_accept_131 : decode cX2_accept 131 = .ok (.putfield 29, 3) := by decide +kernel
theorem dX2_accept_134 : decode cX2_accept 134 = .ok (.aload_n 0, 1) := by decide +kernel
theorem dX2_accept_135 : decode cX2_accept 135 = .ok (.iconst 0, 1) := by decide +kernel
theorem dX2_accept_136 : decode cX2_accept 136 = .ok (.putfield 15, 3) := by decide +kernel
theorem dX2_accept_139 : decode cX2_accept 139 = .ok (.aload_n 0, 1) := by decide +kernel
theorem dX2_accept_140 : decode cX2_accept 140 = .ok (.dup, 1) := by decide +kernel
theorem dX2_accept_141 : decode cX2_accept 141 = .ok (.getfield 39, 3) := by decide +kernel
theorem dX2_accept_144 : decode cX2_accept 144 = .ok (.iconst 1, 1) := by decide +kernel
theorem dX2_accept_145 : decode cX2_accept 145 = .ok (.iadd, 1) := by decide +kernel
theorem dX2_accept_146 : decode cX2_accept 146 = .ok (.putfield 39, 3) := by decide +kernel
theorem dX2_accept_149 : decode cX2_accept 149 = .ok (.iconst 1, 1) := by decide +kernel
theorem dX2_accept_150 : decode cX2_accept 150 = .ok (.ireturn, 1) := by decide +kernel
theorem dX2_isHeader_0 : decode cX2_isHeader 0 = .ok (.aload_n 0, 1) := by decide +kernel
theorem dX2_isHeader_1 : decode cX2_isHeader 1 = .ok (.getfield 15, 3) := by decide +kernel
theorem dX2_isHeader_4 : decode cX2_isHeader 4 = .ok (.tableswitch 77 0 4 #[36, 42, 48, 54, 60], 36) := by decide +kernel
theorem dX2_isHeader_40 : decode cX2_isHeader 40 = .ok (.aload_n 0, 1) := by decide +kernel
theorem dX2_isHeader_41 : decode cX2_isHeader 41 = .ok (.iload_n 1, 1) := by decide +kernel
theorem dX2_isHeader_42 : decode cX2_isHeader 42 = .ok (.invokevirtual 42, 3) := by decide +kernel
theorem dX2_isHeader_45 : decode cX2_isHeader 45 = .ok (.ireturn, 1) := by decide +kernel
theorem dX2_isHeader_46 : decode cX2_isHeader 46 = .ok (.aload_n 0, 1) := by decide +kernel
theorem dX2_isHeader_47 : decode cX2_isHeader 47 = .ok (.iload_n 1, 1) := by decide +kernel
theorem dX2_isHeader_48 : decode cX2_isHeader 48 = .ok (.invokevirtual 45, 3) := by decide +kernel
theorem dX2_isHeader_51 : decode cX2_isHeader 51 = .ok (.ireturn, 1) := by decide +kernel
theorem dX2_isHeader_52 : decode cX2_isHeader 52 = .ok (.aload_n 0, 1) := by decide +kernel
theorem dX2_isHeader_53 : decode cX2_isHeader 53 = .ok (.iload_n 1, 1) := by decide +kernel
theorem dX2_isHeader_54 : decode cX2_isHeader 54 = .ok (.invokevirtual 48, 3) := by decide +kernel
theorem dX2_isHeader_57 : decode cX2_isHeader 57 = .ok (.ireturn, 1) := by decide +kernel
theorem dX2_isHeader_58 : decode cX2_isHeader 58 = .ok (.aload_n 0, 1) := by decide +kernel
theorem dX2_isHeader_59 : decode cX2_isHeader 59 = .ok (.iload_n 1, 1) := by decide +kernel
theorem dX2_isHeader_60 : decode cX2_isHeader 60 = .ok (.invokevirtual 51, 3) := by decide +kernel
theorem dX2_isHeader_63 : decode cX2_isHeader 63 = .ok (.ireturn, 1) := by decide +kernel
theorem dX2_isHeader_64 : decode cX2_isHeader 64 = .ok (.aload_n 0, 1) := by decide +kernel
theorem dX2_isHeader_65 : decode cX2_isHeader 65 = .ok (.iconst 0, 1) := by decide +kernel
theorem dX2_isHeader_66 : decode cX2_isHeader 66 = .ok (.putfield 15, 3) := by decide +kernel
theorem dX2_isHeader_69 : decode cX2_isHeader 69 = .ok (.iload_n 1, 1) := by decide +kernel
theorem dX2_isHeader_70 : decode cX2_isHeader 70 = .ok (.bipush 10, 2) := by decide +kernel
theorem dX2_isHeader_72 : decode cX2_isHeader 72 = .ok (.if_icmp .ne 7, 3) := by decide +kernel
theorem dX2_isHeader_75 : decode cX2_isHeader 75 = .ok (.iconst 1, 1) := by decide +kernel
theorem dX2_isHeader_76 : decode cX2_isHeader 76 = .ok (.goto 4, 3) := by decide +kernel
theorem dX2_isHeader_79 : decode cX2_isHeader 79 = .ok (.iconst 0, 1) := by decide +kernel
theorem dX2_isHeader_80 : decode cX2_isHeader 80 = .ok (.ireturn, 1) := by decide +kernel
theorem dX2_isHeader_81 : decode cX2_isHeader 81 = .ok (.aload_n 0, 1) := by decide +kernel
theorem dX2_isHeader_82 : decode cX2_isHeader 82 = .ok (.bipush 6, 2) := by decide +kernel
theorem dX2_isHeader_84 : decode cX2_isHeader 84 = .ok (.putfield 15, 3) := by decide +kernel
theorem dX2_isHeader_87 : decode cX2_isHeader 87 = .ok (.iload_n 1, 1) := by decide +kernel
theorem dX2_isHeader_88 : decode cX2_isHeader 88 = .ok (.bipush 10, 2) := by decide +kernel
theorem dX2_isHeader_90 : decode cX2_isHeader 90 = .ok (.if_icmp .ne 7, 3) := by decide +kernel
theorem dX2_isHeader_93 : decode cX2_isHeader 93 = .ok (.iconst 1, 1) := by decide +kernel
theorem dX2_isHeader_94 : decode cX2_isHeader 94 = .ok (.goto 4, 3) := by decide +kernel
theorem dX2_isHeader_97 : decode cX2_isHeader 97 = .ok (.iconst 0, 1) := by decide +kernel
theorem dX2_isHeader_98 : decode cX2_isHeader 98 = .ok (.ireturn, 1) := by decide +kernel
theorem dX2_isLineBegin_0 : decode cX2_isLineBegin 0 = .ok (.iload_n 1, 1) := by decide +kernel
theorem dX2_isLineBegin_1 : decode cX2_isLineBegin 1 = .ok (.bipush 13, 2) := by decide +kernel
theorem dX2_isLineBegin_3 : decode cX2_isLineBegin 3 = .ok (.if_icmp .ne 21, 3) := by decide +kernel
theorem dX2_isLineBegin_6 : decode cX2_isLineBegin 6 = .ok (.aload_n 0, 1) := by decide +kernel
theorem dX2_isLineBegin_7 : decode cX2_isLineBegin 7 = .ok (.iconst 5, 1) := by decide +kernel
theorem dX2_isLineBegin_8 : decode cX2_isLineBegin 8 = .ok (.putfield 15, 3) := by decide +kernel
theorem dX2_isLineBegin_11 : decode cX2_isLineBegin 11 = .ok (.aload_n 0, 1) := by decide +kernel
theorem dX2_isLineBegin_12 : decode cX2_isLineBegin 12 = .ok (.getfield 19, 3) := by decide +kernel
theorem dX2_isLineBegin_15 : decode cX2_isLineBegin 15 = .ok (.ifCond .lt 7, 3) := by decide +kernel
theorem dX2_isLineBegin_18 : decode cX2_isLineBegin 18 = .ok (.iconst 1, 1) := by decide +kernel
theorem dX2_isLineBegin_19 : decode cX2_isLineBegin 19 = .ok (.goto 4, 3) := by decide +kernel
theorem dX2_isLineBegin_22 : decode cX2_isLineBegin 22 = .ok (.iconst 0, 1) := by decide +kernel
theorem dX2_isLineBegin_23 : decode cX2_isLineBegin 23 = .ok (.ireturn, 1) := by decide +kernel
theorem dX2_isLineBegin_24 : decode cX2_isLineBegin 24 = .ok (.aload_n 0, 1) := by decide +kernel
theorem dX2_isLineBegin_25 : decode cX2_isLineBegin 25 = .ok (.iconst 1, 1) := by decide +kernel
theorem dX2_isLineBegin_26 : decode cX2_isLineBegin 26 = .ok (.putfield 15, 3) := by decide +kernel
theorem dX2_isLineBegin_29 : decode cX2_isLineBegin 29 = .ok (.aload_n 0, 1) := by decide +kernel
theorem dX2_isLineBegin_30 : decode cX2_isLineBegin 30 = .ok (.iconst 0, 1) := by decide +kernel
theorem dX2_isLineBegin_31 : decode cX2_isLineBegin 31 = .ok (.putfield 54, 3) := by decide +kernel
theorem dX2_isLineBegin_34 : decode cX2_isLineBegin 34 = .ok (.aload_n 0, 1) := by decide +kernel
theorem dX2_isLineBegin_35 : decode cX2_isLineBegin 35 = .ok (.iconst 1, 1) := by decide +kernel
theorem dX2_isLineBegin_36 : decode cX2_isLineBegin 36 = .ok (.putfield 57, 3) := by decide +kernel
theorem dX2_isLineBegin_39 : decode cX2_isLineBegin 39 = .ok (.iload_n 1, 1) := by decide +kernel
theorem dX2_isLineBegin_40 : decode cX2_isLineBegin 40 = .ok (.bipush 58, 2) := by decide +kernel
theorem dX2_isLineBegin_42 : decode cX2_isLineBegin 42 = .ok (.if_icmp .eq 15, 3) := by decide +kernel
theorem dX2_isLineBegin_45 : decode cX2_isLineBegin 45 = .ok (.aload_n 0, 1) := by decide +kernel
theorem dX2_isLineBegin_46 : decode cX2_isLineBegin 46 = .ok (.iload_n 1, 1) := by decide +kernel
theorem dX2_isLineBegin_47 : decode cX2_isLineBegin 47 = .ok (.invokevirtual 45, 3) := by decide +kernel
theorem dX2_isLineBegin_50 : decode cX2_isLineBegin 50 = .ok (.ifCond .eq 7, 3) := by decide +kernel
theorem dX2_isLineBegin_53 : decode cX2_isLineBegin 53 = .ok (.iconst 1, 1) := by decide +kernel
theorem dX2_isLineBegin_54 : decode cX2_isLineBegin 54 = .ok (.goto 4, 3) := by decide +kernel
theorem dX2_isLineBegin_57 : decode cX2_isLineBegin 57 = .ok (.iconst 0, 1) := by decide +kernel
theorem dX2_isLineBegin_58 : decode cX2_isLineBegin 58 = .ok (.ireturn, 1) := by decide +kernel
theorem dX2_isInName_0 : decode cX2_isInName 0 = .ok (.iload_n 1, 1) := by decide +kernel
theorem dX2_isInName_1 : decode cX2_isInName 1 = .ok (.bipush 58, 2) := by decide +kernel
theorem dX2_isInName_3 : decode cX2_isInName 3 = .ok (.if_icmp .ne 43, 3) := by decide +kernel
theorem dX2_isInName_6 : decode cX2_isInName 6 = .ok (.aload_n 0, 1) := by decide +kernel
theorem dX2_isInName_7 : decode cX2_isInName 7 = .ok (.aload_n 0, 1) := by decide +kernel
theorem dX2_isInName_8 : decode cX2_isInName 8 = .ok (.getfield 57, 3) := by decide +kernel
theorem dX2_isInName_11 : decode cX2_isInName 11 = .ok (.ifCond .eq 19, 3) := by decide +kernel
theorem dX2_isInName_14 : decode cX2_isInName 14 = .ok (.aload_n 0, 1) := by decide +kernel
theorem dX2_isInName_15 : decode cX2_isInName 15 = .ok (.getfield 54, 3) := by decide +kernel
theorem dX2_isInName_18 : decode cX2_isInName 18 = .ok (.ldc 60, 2) := by decide +kernel
theorem dX2_isInName_20 : decode cX2_isInName 20 = .ok (.invokevirtual 62, 3) := by decide +kernel
theorem dX2_isInName_23 : decode cX2_isInName 23 = .ok (.if_icmp .ne 7, 3) := by decide +kernel
theorem dX2_isInName_26 : decode cX2_isInName 26 = .ok (.iconst 3, 1) := by decide +kernel
theorem dX2_isInName_27 : decode cX2_isInName 27 = .ok (.goto 4, 3) := by decide +kernel
theorem dX2_isInName_30 : decode cX2_isInName 30 = .ok (.iconst 2, 1) := by decide +kernel
theorem dX2_isInName_31 : decode cX2_isInName 31 = .ok (.putfield 15, 3) := by decide +kernel
theorem dX2_isInName_34 : decode cX2_isInName 34 = .ok (.aload_n 0, 1) := by decide +kernel
theorem dX2_isInName_35 : decode cX2_isInName 35 = .ok (.iconst 0, 1) := by decide +kernel
theorem dX2_isInName_36 : decode cX2_isInName 36 = .ok (.putfield 67, 3) := by decide +kernel
theorem dX2_isInName_39 : decode cX2_isInName 39 = .ok (.aload_n 0, 1) := by decide +kernel
theorem dX2_isInName_40 : decode cX2_isInName 40 = .ok (.iconst 0, 1) := by decide +kernel
theorem dX2_isInName_41 : decode cX2_isInName 41 = .ok (.putfield 70, 3) := by decide +kernel
theorem dX2_isInName_44 : decode cX2_isInName 44 = .ok (.iconst 1, 1) := by decide +kernel
theorem dX2_isInName_45 : decode cX2_isInName 45 = .ok (.ireturn, 1) := by decide +kernel
theorem dX2_isInName_46 : decode cX2_isInName 46 = .ok (.iload_n 1, 1) := by decide +kernel
theorem dX2_isInName_47 : decode cX2_isInName 47 = .ok (.bipush 65, 2) := by decide +kernel
theorem dX2_isInName_49 : decode cX2_isInName 49 = .ok (.if_icmp .lt 16, 3) := by decide +kernel
theorem dX2_isInName_52 : decode cX2_isInName 52 = .ok (.iload_n 1, 1) := by decide +kernel
theorem dX2_isInName_53 : decode cX2_isInName 53 = .ok (.bipush 90, 2) := by decide +kernel
theorem dX2_isInName_55 : decode cX2_isInName 55 = .ok (.if_icmp .gt 10, 3) := by decide +kernel
theorem dX2_isInName_58 : decode cX2_isInName 58 = .ok (.iload_n 1, 1) := by decide +kernel
theorem dX2_isInName_59 : decode cX2_isInName 59 = .ok (.bipush 32, 2) := by decide +kernel
theorem dX2_isInName_61 : decode cX2_isInName 61 = .ok (.iadd, 1) := by decide +kernel
theorem dX2_isInName_62 : decode cX2_isInName 62 = .ok (.goto 4, 3) := by decide +kernel
theorem dX2_isInName_65 : decode cX2_isInName 65 = .ok (.iload_n 1, 1) := by decide +kernel
theorem dX2_isInName_66 : decode cX2_isInName 66 = .ok (.istore_n 2, 1) := by decide +kernel
theorem dX2_isInName_67 : decode cX2_isInName 67 = .ok (.aload_n 0, 1) := by decide +kernel
theorem dX2_isInName_68 : decode cX2_isInName 68 = .ok (.aload_n 0, 1) := by decide +kernel
theorem dX2_isInName_69 : decode cX2_isInName 69 = .ok (.getfield 57, 3) := by decide +kernel
theorem dX2_isInName_72 : decode cX2_isInName 72 = .ok (.ifCond .eq 32, 3) := by decide +kernel
theorem dX2_isInName_75 : decode cX2_isInName 75 = .ok (.aload_n 0, 1) := by decide +kernel
theorem dX2_isInName_76 : decode cX2_isInName 76 = .ok (.getfield 54, 3) := by decide +kernel
theorem dX2_isInName_79 : decode cX2_isInName 79 = .ok (.ldc 60, 2) := by decide +kernel
theorem dX2_isInName_81 : decode cX2_isInName 81 = .ok (.invokevirtual 62, 3) := by decide +kernel
theorem dX2_isInName_84 : decode cX2_isInName 84 = .ok (.if_icmp .ge 20, 3) := by decide +kernel
theorem dX2_isInName_87 : decode cX2_isInName 87 = .ok (.ldc 60, 2) := by decide +kernel
theorem dX2_isInName_89 : decode cX2_isInName 89 = .ok (.aload_n 0, 1) := by decide +kernel
theorem dX2_isInName_90 : decode cX2_isInName 90 = .ok (.getfield 54, 3) := by decide +kernel
theorem dX2_isInName_93 : decode cX2_isInName 93 = .ok (.invokevirtual 73, 3) := by decide +kernel
theorem dX2_isInName_96 : decode cX2_isInName 96 = .ok (.iload_n 2, 1) := by decide +kernel
theorem dX2_isInName_97 : decode cX2_isInName 97 = .ok (.if_icmp .ne 7, 3) := by decide +kernel
theorem dX2_isInName_100 : decode cX2_isInName 100 = .ok (.iconst 1, 1) := by decide +kernel
theorem dX2_isInName_101 : decode cX2_isInName 101 = .ok (.goto 4, 3) := by decide +kernel
theorem dX2_isInName_104 : decode cX2_isInName 104 = .ok (.iconst 0, 1) := by decide +kernel
theorem dX2_isInName_105 : decode cX2_isInName 105 = .ok (.putfield 57, 3) := by decide +kernel
theorem dX2_isInName_108 : decode cX2_isInName 108 = .ok (.aload_n 0, 1) := by decide +kernel
theorem dX2_isInName_109 : decode cX2_isInName 109 = .ok (.dup, 1) := by decide +kernel
theorem dX2_isInName_110 : decode cX2_isInName 110 = .ok (.getfield 54, 3) := by decide +kernel
theorem dX2_isInName_113 : decode cX2_isInName 113 = .ok (.iconst 1, 1) := by decide +kernel
theorem dX2_isInName_114 : decode cX2_isInName 114 = .ok (.iadd, 1) := by decide +kernel
theorem dX2_isInName_115 : decode cX2_isInName 115 = .ok (.putfield 54, 3) := by decide +kernel
theorem dX2_isInName_118 : decode cX2_isInName 118 = .ok (.iload_n 2, 1) := by decide +kernel
theorem dX2_isInName_119 : decode cX2_isInName 119 = .ok (.bipush 45, 2) := by decide +kernel
theorem dX2_isInName_121 : decode cX2_isInName 121 = .ok (.if_icmp .eq 15, 3) := by decide +kernel
theorem dX2_isInName_124 : decode cX2_isInName 124 = .ok (.iload_n 2, 1) := by decide +kernel
theorem dX2_isInName_125 : decode cX2_isInName 125 = .ok (.bipush 97, 2) := by decide +kernel
theorem dX2_isInName_127 : decode cX2_isInName 127 = .ok (.if_icmp .lt 13, 3) := by decide +kernel
theorem dX2_isInName_130 : decode cX2_isInName 130 = .ok (.iload_n 2, 1) := by decide +kernel
theorem dX2_isInName_131 : decode cX2_isInName 131 = .ok (.bipush 122, 2) := by decide +kernel
theorem dX2_isInName_133 : decode cX2_isInName 133 = .ok (.if_icmp .gt 7, 3) := by decide +kernel
theorem dX2_isInName_136 : decode cX2_isInName 136 = .ok (.iconst 1, 1) := by decide +kernel
theorem dX2_isInName_137 : decode cX2_isInName 137 = .ok (.goto 4, 3) := by decide +kernel
theorem dX2_isInName_140 : decode cX2_isInName 140 = .ok (.iconst 0, 1) := by decide +kernel
theorem dX2_isInName_141 : decode cX2_isInName 141 = .ok (.ireturn, 1) := by decide +kernel
theorem dX2_isInValue_0 : decode cX2_isInValue 0 = .ok (.iload_n 1, 1) := by decide +kernel
theorem dX2_isInValue_1 : decode cX2_isInValue 1 = .ok (.bipush 13, 2) := by decide +kernel
theorem dX2_isInValue_3 : decode cX2_isInValue 3 = .ok (.if_icmp .ne 10, 3) := by decide +kernel
theorem dX2_isInValue_6 : decode cX2_isInValue 6 = .ok (.aload_n 0, 1) := by decide +kernel
theorem dX2_isInValue_7 : decode cX2_isInValue 7 = .ok (.iconst 4, 1) := by decide +kernel
theorem dX2_isInValue_8 : decode cX2_isInValue 8 = .ok (.putfield 15, 3) := by decide +kernel
theorem dX2_isInValue_11 : decode cX2_isInValue 11 = .ok (.iconst 1, 1) := by decide +kernel
theorem dX2_isInValue_12 : decode cX2_isInValue 12 = .ok (.ireturn, 1) := by decide +kernel
theorem dX2_isInValue_13 : decode cX2_isInValue 13 = .ok (.iload_n 1, 1) := by decide +kernel
theorem dX2_isInValue_14 : decode cX2_isInValue 14 = .ok (.bipush 32, 2) := by decide +kernel
theorem dX2_isInValue_16 : decode cX2_isInValue 16 = .ok (.if_icmp .lt 13, 3) := by decide +kernel
theorem dX2_isInValue_19 : decode cX2_isInValue 19 = .ok (.iload_n 1, 1) := by decide +kernel
theorem dX2_isInValue_20 : decode cX2_isInValue 20 = .ok (.bipush 126, 2) := by decide +kernel
theorem dX2_isInValue_22 : decode cX2_isInValue 22 = .ok (.if_icmp .gt 7, 3) := by decide +kernel
theorem dX2_isInValue_25 : decode cX2_isInValue 25 = .ok (.iconst 1, 1) := by decide +kernel
theorem dX2_isInValue_26 : decode cX2_isInValue 26 = .ok (.goto 4, 3) := by decide +kernel
theorem dX2_isInValue_29 : decode cX2_isInValue 29 = .ok (.iconst 0, 1) := by decide +kernel
theorem dX2_isInValue_30 : decode cX2_isInValue 30 = .ok (.ireturn, 1) := by decide +kernel
theorem dX2_isInLength_0 : decode cX2_isInLength 0 = .ok (.iload_n 1, 1) := by decide +kernel
theorem dX2_isInLength_1 : decode cX2_isInLength 1 = .ok (.bipush 13, 2) := by decide +kernel
theorem dX2_isInLength_3 : decode cX2_isInLength 3 = .ok (.if_icmp .ne 29, 3) := by decide +kernel
theorem dX2_isInLength_6 : decode cX2_isInLength 6 = .ok (.aload_n 0, 1) := by decide +kernel
theorem dX2_isInLength_7 : decode cX2_isInLength 7 = .ok (.iconst 4, 1) := by decide +kernel
theorem dX2_isInLength_8 : decode cX2_isInLength 8 = .ok (.putfield 15, 3) := by decide +kernel
theorem dX2_isInLength_11 : decode cX2_isInLength 11 = .ok (.aload_n 0, 1) := by decide +kernel
theorem dX2_isInLength_12 : decode cX2_isInLength 12 = .ok (.aload_n 0, 1) := by decide +kernel
theorem dX2_isInLength_13 : decode cX2_isInLength 13 = .ok (.getfield 70, 3) := by decide +kernel
theorem dX2_isInLength_16 : decode cX2_isInLength 16 = .ok (.putfield 19, 3) := by decide +kernel
theorem dX2_isInLength_19 : decode cX2_isInLength 19 = .ok (.aload_n 0, 1) := by decide +kernel
theorem dX2_isInLength_20 : decode cX2_isInLength 20 = .ok (.getfield 67, 3) := by decide +kernel
theorem dX2_isInLength_23 : decode cX2_isInLength 23 = .ok (.ifCond .le 7, 3) := by decide +kernel
theorem dX2_isInLength_26 : decode cX2_isInLength 26 = .ok (.iconst 1, 1) := by decide +kernel
theorem dX2_isInLength_27 : decode cX2_isInLength 27 = .ok (.goto 4, 3) := by decide +kernel
theorem dX2_isInLength_30 : decode cX2_isInLength 30 = .ok (.iconst 0, 1) := by decide +kernel
theorem dX2_isInLength_31 : decode cX2_isInLength 31 = .ok (.ireturn, 1) := by decide +kernel
theorem dX2_isInLength_32 : decode cX2_isInLength 32 = .ok (.iload_n 1, 1) := by decide +kernel
theorem dX2_isInLength_33 : decode cX2_isInLength 33 = .ok (.bipush 48, 2) := by decide +kernel
theorem dX2_isInLength_35 : decode cX2_isInLength 35 = .ok (.if_icmp .lt 9, 3) := by decide +kernel
theorem dX2_isInLength_38 : decode cX2_isInLength 38 = .ok (.iload_n 1, 1) := by decide +kernel
theorem dX2_isInLength_39 : decode cX2_isInLength 39 = .ok (.bipush 57, 2) := by decide +kernel
theorem dX2_isInLength_41 : decode cX2_isInLength 41 = .ok (.if_icmp .le 22, 3) := by decide +kernel
theorem dX2_isInLength_44 : decode cX2_isInLength 44 = .ok (.iload_n 1, 1) := by decide +kernel
theorem dX2_isInLength_45 : decode cX2_isInLength 45 = .ok (.bipush 32, 2) := by decide +kernel
theorem dX2_isInLength_47 : decode cX2_isInLength 47 = .ok (.if_icmp .ne 14, 3) := by decide +kernel
theorem dX2_isInLength_50 : decode cX2_isInLength 50 = .ok (.aload_n 0, 1) := by decide +kernel
theorem dX2_isInLength_51 : decode cX2_isInLength 51 = .ok (.getfield 67, 3) := by decide +kernel
theorem dX2_isInLength_54 : decode cX2_isInLength 54 = .ok (.ifCond .ne 7, 3) := by decide +kernel
theorem dX2_isInLength_57 : decode cX2_isInLength 57 = .ok (.iconst 1, 1) := by decide +kernel
theorem dX2_isInLength_58 : decode cX2_isInLength 58 = .ok (.goto 4, 3) := by decide +kernel
theorem dX2_isInLength_61 : decode cX2_isInLength 61 = .ok (.iconst 0, 1) := by decide +kernel
theorem dX2_isInLength_62 : decode cX2_isInLength 62 = .ok (.ireturn, 1) := by decide +kernel
theorem dX2_isInLength_63 : decode cX2_isInLength 63 = .ok (.aload_n 0, 1) := by decide +kernel
theorem dX2_isInLength_64 : decode cX2_isInLength 64 = .ok (.dup, 1) := by decide +kernel
theorem dX2_isInLength_65 : decode cX2_isInLength 65 = .ok (.getfield 67, 3) := by decide +kernel
theorem dX2_isInLength_68 : decode cX2_isInLength 68 = .ok (.iconst 1, 1) := by decide +kernel
theorem dX2_isInLength_69 : decode cX2_isInLength 69 = .ok (.iadd, 1) := by decide +kernel
theorem dX2_isInLength_70 : decode cX2_isInLength 70 = .ok (.putfield 67, 3) := by decide +kernel
theorem dX2_isInLength_73 : decode cX2_isInLength 73 = .ok (.aload_n 0, 1) := by decide +kernel
theorem dX2_isInLength_74 : decode cX2_isInLength 74 = .ok (.aload_n 0, 1) := by decide +kernel
theorem dX2_isInLength_75 : decode cX2_isInLength 75 = .ok (.getfield 70, 3) := by decide +kernel
theorem dX2_isInLength_78 : decode cX2_isInLength 78 = .ok (.bipush 10, 2) := by decide +kernel
theorem dX2_isInLength_80 : decode cX2_isInLength 80 = .ok (.imul, 1) := by decide +kernel
theorem dX2_isInLength_81 : decode cX2_isInLength 81 = .ok (.iload_n 1, 1) := by decide +kernel
theorem dX2_isInLength_82 : decode cX2_isInLength 82 = .ok (.iadd, 1) := by decide +kernel
theorem dX2_isInLength_83 : decode cX2_isInLength 83 = .ok (.bipush 48, 2) := by decide +kernel
theorem dX2_isInLength_85 : decode cX2_isInLength 85 = .ok (.isub, 1) := by decide +kernel
theorem dX2_isInLength_86 : decode cX2_isInLength 86 = .ok (.putfield 70, 3) := by decide +kernel
theorem dX2_isInLength_89 : decode cX2_isInLength 89 = .ok (.aload_n 0, 1) := by decide +kernel
theorem dX2_isInLength_90 : decode cX2_isInLength 90 = .ok (.getfield 67, 3) := by decide +kernel
theorem dX2_isInLength_93 : decode cX2_isInLength 93 = .ok (.iconst 4, 1) := by decide +kernel
theorem dX2_isInLength_94 : decode cX2_isInLength 94 = .ok (.if_icmp .gt 17, 3) := by decide +kernel
theorem dX2_isInLength_97 : decode cX2_isInLength 97 = .ok (.aload_n 0, 1) := by decide +kernel
theorem dX2_isInLength_98 : decode cX2_isInLength 98 = .ok (.getfield 70, 3) := by decide +kernel
theorem dX2_isInLength_101 : decode cX2_isInLength 101 = .ok (.sipush 3000, 3) := by decide +kernel
theorem dX2_isInLength_104 : decode cX2_isInLength 104 = .ok (.if_icmp .gt 7, 3) := by decide +kernel
theorem dX2_isInLength_107 : decode cX2_isInLength 107 = .ok (.iconst 1, 1) := by decide +kernel
theorem dX2_isInLength_108 : decode cX2_isInLength 108 = .ok (.goto 4, 3) := by decide +kernel
theorem dX2_isInLength_111 : decode cX2_isInLength 111 = .ok (.iconst 0, 1) := by decide +kernel
theorem dX2_isInLength_112 : decode cX2_isInLength 112 = .ok (.ireturn, 1) := by decide +kernel
def EX2_isInValue : List (Nat × Nat) := [(4, 5)]
def EX2_isInLength : List (Nat × Nat) := [(4, 5), (4, 6), (4, 10), (4, 11)]
def EX2_isInName : List (Nat × Nat) := [(4, 5), (4, 8), (4, 9), (4, 10), (4, 11)]
def EX2_isLineBegin : List (Nat × Nat) := [(4, 5), (4, 8), (4, 9), (4, 10), (4, 11)]
def EX2_isHeader : List (Nat × Nat) := [(4, 5), (4, 6), (4, 8), (4, 9), (4, 10), (4, 11)]
def EX2_accept : List (Nat × Nat) := [(4, 1), (4, 2), (4, 3), (4, 4), (4, 5), (4, 6), (4, 7), (4, 8), (4, 9), (4, 10), (4, 11), (100, 0)]
set_option maxHeartbeats 4000000 in
set_option maxRecDepth 20000 in
theorem uX2_isInValue (l : Launch) (dC : Nat → ClassId) (dI : Nat → Nat → Nat) (ca : Nat → ClassId) (base : Nat) (B : jF) (hB : jBok B) (hAp : jAp (dC, dI)) (hB4 : ∀ n G a H, B 4 n G a H ↔ jOb (dC, dI) 4 12 (F4 n G) a H) (G0 : jT) (H0 : Heap) (r0 : Nat) (a1 : Int32) : Met l yX2_isInValue (jw yX2_isInValue cX2_isInValue 2 (some .boolean)) ({ frames := 0, cells := 0, slots := 0, locals := 0 }) (va_Pc [.ref r0, .int a1] (fun U => U.heap = H0 ∧ jX B base G0 [] H0 ∧ jG dC dI ca base U ∧ G0 r0 = some (4, 0) ∧ jP (dC, dI) G0 H0 [] ∧ True)) (va_Qi (S := Unit) (fun r u => (r = 0 ∨ r = 1) ∧ (True)) (fun u t => jRt (dC, dI) B base G0 EX2_isInValue H0 [] t.heap) (jA base)) 0 0 (jA base) := by
  refine Met.ofW (cc := cX2_isInValue) (maxL := 2) (ret := (some .boolean)) (by decide) rfl ?_
  intro p e s m args below meth c s₁ Bd hml hv
  obtain ⟨rfl, hH0, hX, hG, hg_r0, hP0, hp0⟩ := hv
  have hK := hG.1
  have hx := Bd.exec
  have hb := Bd.bytes
  have hr := Bd.returns
  have hts := atoms_spec (ws := (jw yX2_isInValue cX2_isInValue 2 (some .boolean))) Bd.pre
  have htw : ∀ w ∈ jWl, w.before _ s = true := fun w h => hts w (List.mem_cons_of_mem _ h)
  have hown : s.vm.findClass RX2 = some m.cls := findClass_of_methodNamed Bd.named
  have hlocks := Bd.notSynchronized
  obtain ⟨Q, hQ⟩ : ∃ Q, Q = MQ below (va_Qi (S := Unit) (fun r u => (r = 0 ∨ r = 1) ∧ (True)) (fun u t => jRt (dC, dI) B base G0 EX2_isInValue H0 [] t.heap) (jA base)) ([.ref r0, .int a1] : List Value).toArray s 0 0 (jA base) := ⟨_, rfl⟩
  rw [← hQ]
  have hl := lv_entry ([.ref r0, .int a1]) (n := 2) (Nat.le_of_ble_eq_true rfl)
  rw [lg_entry_eq]
  generalize (lg_sl ([.ref r0, .int a1]) ++ List.replicate (2 - (lg_sl ([.ref r0, .int a1])).length) Slot.unset).toArray = ls at hl ⊢
  have hl : lv_has ls 2 [(0, .ref r0), (1, .int a1)] := hl
  generalize hR : (headSpec (jw yX2_isInValue cX2_isInValue 2 (some .boolean)) ({ frames := 0, cells := 0, slots := 0, locals := 0 })).room = R
  subst hH0
  have hh : jSt (dC, dI) B base G0 G0 EX2_isInValue s.heap 0 0 [] [] [] s.heap [] := jSt.start hX hP0 jMc.nil jIs.nil
  clear hX hP0
  have hk0 : (0 : Int32).toInt = 0 := by decide
  have hk1 : (1 : Int32).toInt = 1 := by decide
  have hk4 : (4 : Int32).toInt = 4 := by decide
  have hk13 : (13 : Int32).toInt = 13 := by decide
  have hk32 : (32 : Int32).toInt = 32 := by decide
  have hk126 : (126 : Int32).toInt = 126 := by decide
  have hly_4_5 := htw (u_lay RX2 TX2 5) (jWc_wsX20 _ (u_in_lay (by decide)))
  have hlk_15 := (htw (.fieldLink RX2 15 "ProofServer$Frames" "place" "I") (jWr_3 _ (List.mem_of_getElem? (i := 15) rfl)))
  have hrg_a1 := jb_rng a1
  refine lv_iload_n hx hb dX2_isInValue_0 rfl (lv_at hl 1 rfl) ?_
  refine lv_bipush (v := 13) hx hb dX2_isInValue_1 (by decide) ?_
  refine lv_icmp_ne (tgt := 13) hx hb dX2_isInValue_3 (by decide) (fun c_1 => ?_) (fun c_1 => ?_)
  · skip
    have c_1' : a1.toInt ≠ 13 := jb_ne (rfl) ((by decide)) c_1
    refine lv_iload_n hx hb dX2_isInValue_13 rfl (lv_at hl 1 rfl) ?_
    refine lv_bipush (v := 32) hx hb dX2_isInValue_14 (by decide) ?_
    refine lv_icmp_lt (tgt := 29) hx hb dX2_isInValue_16 (by decide) (fun c_2 => ?_) (fun c_2 => ?_)
    · skip
      have c_2' : a1.toInt < 32 := jb_lt (rfl) ((by decide)) c_2
      refine lv_iconst (v := 0) hx hb dX2_isInValue_29 (by decide) ?_
      rw [hQ]
      exact W.zret (v := 0) hx hb hr (jb_nz (Or.inl rfl)) (fun t ht hW => ⟨⟨0, (), rfl, ⟨(Or.inl rfl), trivial⟩, hh.rt (M1 := []) [] rfl ht⟩, by rw [ht]; try exact hh.1.1, fun q h9 hq => by rw [ht]; try exact hh.1.2.1 q h9 hq⟩) hh.1.2.2 dX2_isInValue_30
    · skip
      have c_2' : a1.toInt ≥ 32 := jb_lt_n (rfl) ((by decide)) c_2
      refine lv_iload_n hx hb dX2_isInValue_19 rfl (lv_at hl 1 rfl) ?_
      refine lv_bipush (v := 126) hx hb dX2_isInValue_20 (by decide) ?_
      refine lv_icmp_gt (tgt := 29) hx hb dX2_isInValue_22 (by decide) (fun c_3 => ?_) (fun c_3 => ?_)
      · skip
        have c_3' : a1.toInt > 126 := jb_gt (rfl) ((by decide)) c_3
        refine lv_iconst (v := 0) hx hb dX2_isInValue_29 (by decide) ?_
        rw [hQ]
        exact W.zret (v := 0) hx hb hr (jb_nz (Or.inl rfl)) (fun t ht hW => ⟨⟨0, (), rfl, ⟨(Or.inl rfl), trivial⟩, hh.rt (M1 := []) [] rfl ht⟩, by rw [ht]; try exact hh.1.1, fun q h9 hq => by rw [ht]; try exact hh.1.2.1 q h9 hq⟩) hh.1.2.2 dX2_isInValue_30
      · skip
        have c_3' : a1.toInt ≤ 126 := jb_gt_n (rfl) ((by decide)) c_3
        refine lv_iconst (v := 1) hx hb dX2_isInValue_25 (by decide) ?_
        refine lv_goto (tgt := 30) hx hb dX2_isInValue_26 (by decide) ?_
        rw [hQ]
        exact W.zret (v := 1) hx hb hr (jb_nz (Or.inr rfl)) (fun t ht hW => ⟨⟨1, (), rfl, ⟨(Or.inr rfl), trivial⟩, hh.rt (M1 := []) [] rfl ht⟩, by rw [ht]; try exact hh.1.1, fun q h9 hq => by rw [ht]; try exact hh.1.2.1 q h9 hq⟩) hh.1.2.2 dX2_isInValue_30
  · skip
    have c_1' : a1.toInt = 13 := jb_ne_n (rfl) ((by decide)) c_1
    refine lv_aload_n hx hb dX2_isInValue_6 rfl (lv_at hl 0 rfl) ?_
    refine lv_iconst (v := 4) hx hb dX2_isInValue_7 (by decide) ?_
    refine j7_put hx hb hown hK hh hB hAp hB4 (C := RX2) (T := TX2) (N := 12) rfl (by decide) hg_r0 (i := 5) (by decide) hly_4_5 rfl hlk_15 rfl (ty := .int) (v := .int 4) (by decide +kernel) rfl rfl (⟨_, rfl⟩) rfl (L1 := []) [] rfl rfl rfl dX2_isInValue_8 (fun H_4 locs_4 hh_4 => ?_)
    clear hh
    refine lv_iconst (v := 1) hx hb dX2_isInValue_11 (by decide) ?_
    rw [hQ]
    exact W.zret (v := 1) hx hb hr (jb_nz (Or.inr rfl)) (fun t ht hW => ⟨⟨1, (), rfl, ⟨(Or.inr rfl), trivial⟩, hh_4.rt (M1 := []) [] rfl ht⟩, by rw [ht]; try exact hh_4.1.1, fun q h9 hq => by rw [ht]; try exact hh_4.1.2.1 q h9 hq⟩) hh_4.1.2.2 dX2_isInValue_12
set_option maxHeartbeats 4000000 in
set_option maxRecDepth 20000 in
theorem uX2_isInLength (l : Launch) (dC : Nat → ClassId) (dI : Nat → Nat → Nat) (ca : Nat → ClassId) (base : Nat) (B : jF) (hB : jBok B) (hAp : jAp (dC, dI)) (hB4 : ∀ n G a H, B 4 n G a H ↔ jOb (dC, dI) 4 12 (F4 n G) a H) (G0 : jT) (H0 : Heap) (r0 : Nat) (a1 : Int32) (sv : Int32) : Met l yX2_isInLength (jw yX2_isInLength cX2_isInLength 2 (some .boolean)) ({ frames := 0, cells := 0, slots := 0, locals := 0 }) (va_Pc [.ref r0, .int a1] (fun U => U.heap = H0 ∧ jX B base G0 [] H0 ∧ jG dC dI ca base U ∧ G0 r0 = some (4, 0) ∧ jP (dC, dI) G0 H0 [(r0, 4, 11, .int sv)] ∧ 0 ≤ sv.toInt ∧ sv.toInt ≤ 3000)) (va_Qi (S := Int32) (fun r u => (r = 0 ∨ r = 1) ∧ (u.toInt ≤ 3000 + 100000 * (1 - r.toInt) ∧ 0 ≤ r.toInt ∧ r.toInt ≤ 1)) (fun u t => jRt (dC, dI) B base G0 EX2_isInLength H0 [(r0, 4, 11, .int u)] t.heap) (jA base)) 0 0 (jA base) := by
  refine Met.ofW (cc := cX2_isInLength) (maxL := 2) (ret := (some .boolean)) (by decide) rfl ?_
  intro p e s m args below meth c s₁ Bd hml hv
  obtain ⟨rfl, hH0, hX, hG, hg_r0, hP0, hp0, hp1⟩ := hv
  have hK := hG.1
  have hx := Bd.exec
  have hb := Bd.bytes
  have hr := Bd.returns
  have hts := atoms_spec (ws := (jw yX2_isInLength cX2_isInLength 2 (some .boolean))) Bd.pre
  have htw : ∀ w ∈ jWl, w.before _ s = true := fun w h => hts w (List.mem_cons_of_mem _ h)
  have hown : s.vm.findClass RX2 = some m.cls := findClass_of_methodNamed Bd.named
  have hlocks := Bd.notSynchronized
  obtain ⟨Q, hQ⟩ : ∃ Q, Q = MQ below (va_Qi (S := Int32) (fun r u => (r = 0 ∨ r = 1) ∧ (u.toInt ≤ 3000 + 100000 * (1 - r.toInt) ∧ 0 ≤ r.toInt ∧ r.toInt ≤ 1)) (fun u t => jRt (dC, dI) B base G0 EX2_isInLength H0 [(r0, 4, 11, .int u)] t.heap) (jA base)) ([.ref r0, .int a1] : List Value).toArray s 0 0 (jA base) := ⟨_, rfl⟩
  rw [← hQ]
  have hl := lv_entry ([.ref r0, .int a1]) (n := 2) (Nat.le_of_ble_eq_true rfl)
  rw [lg_entry_eq]
  generalize (lg_sl ([.ref r0, .int a1]) ++ List.replicate (2 - (lg_sl ([.ref r0, .int a1])).length) Slot.unset).toArray = ls at hl ⊢
  have hl : lv_has ls 2 [(0, .ref r0), (1, .int a1)] := hl
  generalize hR : (headSpec (jw yX2_isInLength cX2_isInLength 2 (some .boolean)) ({ frames := 0, cells := 0, slots := 0, locals := 0 })).room = R
  subst hH0
  have hh : jSt (dC, dI) B base G0 G0 EX2_isInLength s.heap 0 0 [(r0, 4, 11, .int sv)] [] [] s.heap [] := jSt.start hX hP0 jMc.nil jIs.nil
  clear hX hP0
  have hk0 : (0 : Int32).toInt = 0 := by decide
  have hk1 : (1 : Int32).toInt = 1 := by decide
  have hk4 : (4 : Int32).toInt = 4 := by decide
  have hk10 : (10 : Int32).toInt = 10 := by decide
  have hk13 : (13 : Int32).toInt = 13 := by decide
  have hk32 : (32 : Int32).toInt = 32 := by decide
  have hk48 : (48 : Int32).toInt = 48 := by decide
  have hk57 : (57 : Int32).toInt = 57 := by decide
  have hk3000 : (3000 : Int32).toInt = 3000 := by decide
  have hly_4_5 := htw (u_lay RX2 TX2 5) (jWc_wsX20 _ (u_in_lay (by decide)))
  have hly_4_6 := htw (u_lay RX2 TX2 6) (jWc_wsX20 _ (u_in_lay (by decide)))
  have hly_4_10 := htw (u_lay RX2 TX2 10) (jWc_wsX20 _ (u_in_lay (by decide)))
  have hly_4_11 := htw (u_lay RX2 TX2 11) (jWc_wsX20 _ (u_in_lay (by decide)))
  have hlk_15 := (htw (.fieldLink RX2 15 "ProofServer$Frames" "place" "I") (jWr_3 _ (List.mem_of_getElem? (i := 15) rfl)))
  have hlk_70 := (htw (.fieldLink RX2 70 "ProofServer$Frames" "value" "I") (jWr_18 _ (List.mem_of_getElem? (i := 10) rfl)))
  have hlk_19 := (htw (.fieldLink RX2 19 "ProofServer$Frames" "told" "I") (jWr_3 _ (List.mem_of_getElem? (i := 16) rfl)))
  have hlk_67 := (htw (.fieldLink RX2 67 "ProofServer$Frames" "digits" "I") (jWr_18 _ (List.mem_of_getElem? (i := 9) rfl)))
  have hrg_a1 := jb_rng a1
  refine lv_iload_n hx hb dX2_isInLength_0 rfl (lv_at hl 1 rfl) ?_
  refine lv_bipush (v := 13) hx hb dX2_isInLength_1 (by decide) ?_
  refine lv_icmp_ne (tgt := 32) hx hb dX2_isInLength_3 (by decide) (fun c_1 => ?_) (fun c_1 => ?_)
  · skip
    have c_1' : a1.toInt ≠ 13 := jb_ne (rfl) ((by decide)) c_1
    refine lv_iload_n hx hb dX2_isInLength_32 rfl (lv_at hl 1 rfl) ?_
    refine lv_bipush (v := 48) hx hb dX2_isInLength_33 (by decide) ?_
    refine lv_icmp_lt (tgt := 44) hx hb dX2_isInLength_35 (by decide) (fun c_2 => ?_) (fun c_2 => ?_)
    · skip
      have c_2' : a1.toInt < 48 := jb_lt (rfl) ((by decide)) c_2
      refine lv_iload_n hx hb dX2_isInLength_44 rfl (lv_at hl 1 rfl) ?_
      refine lv_bipush (v := 32) hx hb dX2_isInLength_45 (by decide) ?_
      refine lv_icmp_ne (tgt := 61) hx hb dX2_isInLength_47 (by decide) (fun c_3 => ?_) (fun c_3 => ?_)
      · skip
        have c_3' : a1.toInt ≠ 32 := jb_ne (rfl) ((by decide)) c_3
        refine lv_iconst (v := 0) hx hb dX2_isInLength_61 (by decide) ?_
        rw [hQ]
        exact W.zret (v := 0) hx hb hr (jb_nz (Or.inl rfl)) (fun t ht hW => ⟨⟨0, sv, rfl, ⟨(Or.inl rfl), by first | omega | (refine ⟨?_, ?_, ?_⟩ <;> (first | omega | rfl | assumption | decide | exact Or.inl rfl | exact Or.inr rfl | (simp only; omega)))⟩, hh.rt (M1 := [(r0, 4, 11, .int sv)]) [0] rfl ht⟩, by rw [ht]; try exact hh.1.1, fun q h9 hq => by rw [ht]; try exact hh.1.2.1 q h9 hq⟩) hh.1.2.2 dX2_isInLength_62
      · skip
        have c_3' : a1.toInt = 32 := jb_ne_n (rfl) ((by decide)) c_3
        refine lv_aload_n hx hb dX2_isInLength_50 rfl (lv_at hl 0 rfl) ?_
        obtain ⟨v_4, hv_4, hh_5⟩ := hh.pin (C := RX2) (T := TX2) (N := 12) hB4 rfl (by decide) hg_r0 (i := 10) (by decide) rfl
        clear hh
        obtain ⟨digits_6, rfl⟩ := hv_4
        refine j7_read hx hb hown hK (C := RX2) (T := TX2) (N := 12) rfl hly_4_10 hlk_67 (hh_5.at 0 rfl) dX2_isInLength_51 ?_
        refine lv_if_ne (tgt := 61) hx hb dX2_isInLength_54 (by decide) (fun c_7 => ?_) (fun c_7 => ?_)
        · skip
          have c_7' : digits_6.toInt ≠ 0 := jb_ne (rfl) ((by decide)) c_7
          refine lv_iconst (v := 0) hx hb dX2_isInLength_61 (by decide) ?_
          rw [hQ]
          exact W.zret (v := 0) hx hb hr (jb_nz (Or.inl rfl)) (fun t ht hW => ⟨⟨0, sv, rfl, ⟨(Or.inl rfl), by first | omega | (refine ⟨?_, ?_, ?_⟩ <;> (first | omega | rfl | assumption | decide | exact Or.inl rfl | exact Or.inr rfl | (simp only; omega)))⟩, hh_5.rt (M1 := [(r0, 4, 11, .int sv)]) [1] rfl ht⟩, by rw [ht]; try exact hh_5.1.1, fun q h9 hq => by rw [ht]; try exact hh_5.1.2.1 q h9 hq⟩) hh_5.1.2.2 dX2_isInLength_62
        · skip
          have c_7' : digits_6.toInt = 0 := jb_ne_n (rfl) ((by decide)) c_7
          refine lv_iconst (v := 1) hx hb dX2_isInLength_57 (by decide) ?_
          refine lv_goto (tgt := 62) hx hb dX2_isInLength_58 (by decide) ?_
          rw [hQ]
          exact W.zret (v := 1) hx hb hr (jb_nz (Or.inr rfl)) (fun t ht hW => ⟨⟨1, sv, rfl, ⟨(Or.inr rfl), by first | omega | (refine ⟨?_, ?_, ?_⟩ <;> (first | omega | rfl | assumption | decide | exact Or.inl rfl | exact Or.inr rfl | (simp only; omega)))⟩, hh_5.rt (M1 := [(r0, 4, 11, .int sv)]) [1] rfl ht⟩, by rw [ht]; try exact hh_5.1.1, fun q h9 hq => by rw [ht]; try exact hh_5.1.2.1 q h9 hq⟩) hh_5.1.2.2 dX2_isInLength_62
    · skip
      have c_2' : a1.toInt ≥ 48 := jb_lt_n (rfl) ((by decide)) c_2
      refine lv_iload_n hx hb dX2_isInLength_38 rfl (lv_at hl 1 rfl) ?_
      refine lv_bipush (v := 57) hx hb dX2_isInLength_39 (by decide) ?_
      refine lv_icmp_le (tgt := 63) hx hb dX2_isInLength_41 (by decide) (fun c_8 => ?_) (fun c_8 => ?_)
      · skip
        have c_8' : a1.toInt ≤ 57 := jb_le (rfl) ((by decide)) c_8
        refine lv_aload_n hx hb dX2_isInLength_63 rfl (lv_at hl 0 rfl) ?_
        refine lv_dup hx hb dX2_isInLength_64 rfl ?_
        obtain ⟨v_9, hv_9, hh_10⟩ := hh.pin (C := RX2) (T := TX2) (N := 12) hB4 rfl (by decide) hg_r0 (i := 10) (by decide) rfl
        clear hh
        obtain ⟨digits_11, rfl⟩ := hv_9
        refine j7_read hx hb hown hK (C := RX2) (T := TX2) (N := 12) rfl hly_4_10 hlk_67 (hh_10.at 0 rfl) dX2_isInLength_65 ?_
        refine lv_iconst (v := 1) hx hb dX2_isInLength_68 (by decide) ?_
        refine lv_iadd hx hb dX2_isInLength_69 ?_
        refine lv_topi (fun z_12 ez_12 => ?_)
        refine j7_put hx hb hown hK hh_10 hB hAp hB4 (C := RX2) (T := TX2) (N := 12) rfl (by decide) hg_r0 (i := 10) (by decide) hly_4_10 rfl hlk_67 rfl (ty := .int) (v := .int z_12) (by decide +kernel) rfl rfl (⟨_, rfl⟩) rfl (L1 := [(r0, 4, 11, .int sv)]) [1] rfl rfl rfl dX2_isInLength_70 (fun H_13 locs_13 hh_13 => ?_)
        clear hh_10
        refine lv_aload_n hx hb dX2_isInLength_73 rfl (lv_at hl 0 rfl) ?_
        refine lv_aload_n hx hb dX2_isInLength_74 rfl (lv_at hl 0 rfl) ?_
        refine j7_read hx hb hown hK (C := RX2) (T := TX2) (N := 12) rfl hly_4_11 hlk_70 (hh_13.at 1 rfl) dX2_isInLength_75 ?_
        refine lv_bipush (v := 10) hx hb dX2_isInLength_78 (by decide) ?_
        refine lv_imul hx hb dX2_isInLength_80 ?_
        refine lv_topi (fun z_14 ez_14 => ?_)
        have hz_14 : z_14.toInt = sv.toInt * 10 := by rw [ez_14]; exact jb_imul2 (rfl) ((by decide)) (by omega)
        refine lv_iload_n hx hb dX2_isInLength_81 rfl (lv_at hl 1 rfl) ?_
        refine lv_iadd hx hb dX2_isInLength_82 ?_
        refine lv_topi (fun z_15 ez_15 => ?_)
        have hz_15 : z_15.toInt = z_14.toInt + a1.toInt := by rw [ez_15]; exact jb_iadd2 (rfl) (rfl) (by omega)
        refine lv_bipush (v := 48) hx hb dX2_isInLength_83 (by decide) ?_
        refine lv_isub hx hb dX2_isInLength_85 ?_
        refine lv_topi (fun z_16 ez_16 => ?_)
        have hz_16 : z_16.toInt = z_15.toInt - 48 := by rw [ez_16]; exact jb_isub2 (rfl) ((by decide)) (by omega)
        refine j7_put hx hb hown hK hh_13 hB hAp hB4 (C := RX2) (T := TX2) (N := 12) rfl (by decide) hg_r0 (i := 11) (by decide) hly_4_11 rfl hlk_70 rfl (ty := .int) (v := .int z_16) (by decide +kernel) rfl rfl (⟨_, rfl, by omega, by omega⟩) rfl (L1 := [(r0, 4, 10, .int z_12)]) [0] rfl rfl rfl dX2_isInLength_86 (fun H_17 locs_17 hh_17 => ?_)
        clear hh_13
        refine lv_aload_n hx hb dX2_isInLength_89 rfl (lv_at hl 0 rfl) ?_
        refine j7_read hx hb hown hK (C := RX2) (T := TX2) (N := 12) rfl hly_4_10 hlk_67 (hh_17.at 1 rfl) dX2_isInLength_90 ?_
        refine lv_iconst (v := 4) hx hb dX2_isInLength_93 (by decide) ?_
        refine lv_icmp_gt (tgt := 111) hx hb dX2_isInLength_94 (by decide) (fun c_18 => ?_) (fun c_18 => ?_)
        · skip
          have c_18' : z_12.toInt > 4 := jb_gt (rfl) ((by decide)) c_18
          refine lv_iconst (v := 0) hx hb dX2_isInLength_111 (by decide) ?_
          rw [hQ]
          exact W.zret (v := 0) hx hb hr (jb_nz (Or.inl rfl)) (fun t ht hW => ⟨⟨0, z_16, rfl, ⟨(Or.inl rfl), by first | omega | (refine ⟨?_, ?_, ?_⟩ <;> (first | omega | rfl | assumption | decide | exact Or.inl rfl | exact Or.inr rfl | (simp only; omega)))⟩, hh_17.rt (M1 := [(r0, 4, 11, .int z_16)]) [0] rfl ht⟩, by rw [ht]; try exact hh_17.1.1, fun q h9 hq => by rw [ht]; try exact hh_17.1.2.1 q h9 hq⟩) hh_17.1.2.2 dX2_isInLength_112
        · skip
          have c_18' : z_12.toInt ≤ 4 := jb_gt_n (rfl) ((by decide)) c_18
          refine lv_aload_n hx hb dX2_isInLength_97 rfl (lv_at hl 0 rfl) ?_
          refine j7_read hx hb hown hK (C := RX2) (T := TX2) (N := 12) rfl hly_4_11 hlk_70 (hh_17.at 0 rfl) dX2_isInLength_98 ?_
          refine lv_sipush (v := 3000) hx hb dX2_isInLength_101 (by decide) ?_
          refine lv_icmp_gt (tgt := 111) hx hb dX2_isInLength_104 (by decide) (fun c_19 => ?_) (fun c_19 => ?_)
          · skip
            have c_19' : z_16.toInt > 3000 := jb_gt (rfl) ((by decide)) c_19
            refine lv_iconst (v := 0) hx hb dX2_isInLength_111 (by decide) ?_
            rw [hQ]
            exact W.zret (v := 0) hx hb hr (jb_nz (Or.inl rfl)) (fun t ht hW => ⟨⟨0, z_16, rfl, ⟨(Or.inl rfl), by first | omega | (refine ⟨?_, ?_, ?_⟩ <;> (first | omega | rfl | assumption | decide | exact Or.inl rfl | exact Or.inr rfl | (simp only; omega)))⟩, hh_17.rt (M1 := [(r0, 4, 11, .int z_16)]) [0] rfl ht⟩, by rw [ht]; try exact hh_17.1.1, fun q h9 hq => by rw [ht]; try exact hh_17.1.2.1 q h9 hq⟩) hh_17.1.2.2 dX2_isInLength_112
          · skip
            have c_19' : z_16.toInt ≤ 3000 := jb_gt_n (rfl) ((by decide)) c_19
            refine lv_iconst (v := 1) hx hb dX2_isInLength_107 (by decide) ?_
            refine lv_goto (tgt := 112) hx hb dX2_isInLength_108 (by decide) ?_
            rw [hQ]
            exact W.zret (v := 1) hx hb hr (jb_nz (Or.inr rfl)) (fun t ht hW => ⟨⟨1, z_16, rfl, ⟨(Or.inr rfl), by first | omega | (refine ⟨?_, ?_, ?_⟩ <;> (first | omega | rfl | assumption | decide | exact Or.inl rfl | exact Or.inr rfl | (simp only; omega)))⟩, hh_17.rt (M1 := [(r0, 4, 11, .int z_16)]) [0] rfl ht⟩, by rw [ht]; try exact hh_17.1.1, fun q h9 hq => by rw [ht]; try exact hh_17.1.2.1 q h9 hq⟩) hh_17.1.2.2 dX2_isInLength_112
      · skip
        have c_8' : a1.toInt > 57 := jb_le_n (rfl) ((by decide)) c_8
        refine lv_iload_n hx hb dX2_isInLength_44 rfl (lv_at hl 1 rfl) ?_
        refine lv_bipush (v := 32) hx hb dX2_isInLength_45 (by decide) ?_
        refine lv_icmp_ne (tgt := 61) hx hb dX2_isInLength_47 (by decide) (fun c_20 => ?_) (fun c_20 => ?_)
        · skip
          have c_20' : a1.toInt ≠ 32 := jb_ne (rfl) ((by decide)) c_20
          refine lv_iconst (v := 0) hx hb dX2_isInLength_61 (by decide) ?_
          rw [hQ]
          exact W.zret (v := 0) hx hb hr (jb_nz (Or.inl rfl)) (fun t ht hW => ⟨⟨0, sv, rfl, ⟨(Or.inl rfl), by first | omega | (refine ⟨?_, ?_, ?_⟩ <;> (first | omega | rfl | assumption | decide | exact Or.inl rfl | exact Or.inr rfl | (simp only; omega)))⟩, hh.rt (M1 := [(r0, 4, 11, .int sv)]) [0] rfl ht⟩, by rw [ht]; try exact hh.1.1, fun q h9 hq => by rw [ht]; try exact hh.1.2.1 q h9 hq⟩) hh.1.2.2 dX2_isInLength_62
        · skip
          have c_20' : a1.toInt = 32 := jb_ne_n (rfl) ((by decide)) c_20
          refine lv_aload_n hx hb dX2_isInLength_50 rfl (lv_at hl 0 rfl) ?_
          obtain ⟨v_21, hv_21, hh_22⟩ := hh.pin (C := RX2) (T := TX2) (N := 12) hB4 rfl (by decide) hg_r0 (i := 10) (by decide) rfl
          clear hh
          obtain ⟨digits_23, rfl⟩ := hv_21
          refine j7_read hx hb hown hK (C := RX2) (T := TX2) (N := 12) rfl hly_4_10 hlk_67 (hh_22.at 0 rfl) dX2_isInLength_51 ?_
          refine lv_if_ne (tgt := 61) hx hb dX2_isInLength_54 (by decide) (fun c_24 => ?_) (fun c_24 => ?_)
          · skip
            have c_24' : digits_23.toInt ≠ 0 := jb_ne (rfl) ((by decide)) c_24
            refine lv_iconst (v := 0) hx hb dX2_isInLength_61 (by decide) ?_
            rw [hQ]
            exact W.zret (v := 0) hx hb hr (jb_nz (Or.inl rfl)) (fun t ht hW => ⟨⟨0, sv, rfl, ⟨(Or.inl rfl), by first | omega | (refine ⟨?_, ?_, ?_⟩ <;> (first | omega | rfl | assumption | decide | exact Or.inl rfl | exact Or.inr rfl | (simp only; omega)))⟩, hh_22.rt (M1 := [(r0, 4, 11, .int sv)]) [1] rfl ht⟩, by rw [ht]; try exact hh_22.1.1, fun q h9 hq => by rw [ht]; try exact hh_22.1.2.1 q h9 hq⟩) hh_22.1.2.2 dX2_isInLength_62
          · skip
            have c_24' : digits_23.toInt = 0 := jb_ne_n (rfl) ((by decide)) c_24
            refine lv_iconst (v := 1) hx hb dX2_isInLength_57 (by decide) ?_
            refine lv_goto (tgt := 62) hx hb dX2_isInLength_58 (by decide) ?_
            rw [hQ]
            exact W.zret (v := 1) hx hb hr (jb_nz (Or.inr rfl)) (fun t ht hW => ⟨⟨1, sv, rfl, ⟨(Or.inr rfl), by first | omega | (refine ⟨?_, ?_, ?_⟩ <;> (first | omega | rfl | assumption | decide | exact Or.inl rfl | exact Or.inr rfl | (simp only; omega)))⟩, hh_22.rt (M1 := [(r0, 4, 11, .int sv)]) [1] rfl ht⟩, by rw [ht]; try exact hh_22.1.1, fun q h9 hq => by rw [ht]; try exact hh_22.1.2.1 q h9 hq⟩) hh_22.1.2.2 dX2_isInLength_62
  · skip
    have c_1' : a1.toInt = 13 := jb_ne_n (rfl) ((by decide)) c_1
    refine lv_aload_n hx hb dX2_isInLength_6 rfl (lv_at hl 0 rfl) ?_
    refine lv_iconst (v := 4) hx hb dX2_isInLength_7 (by decide) ?_
    refine j7_put hx hb hown hK hh hB hAp hB4 (C := RX2) (T := TX2) (N := 12) rfl (by decide) hg_r0 (i := 5) (by decide) hly_4_5 rfl hlk_15 rfl (ty := .int) (v := .int 4) (by decide +kernel) rfl rfl (⟨_, rfl⟩) rfl (L1 := [(r0, 4, 11, .int sv)]) [0] rfl rfl rfl dX2_isInLength_8 (fun H_25 locs_25 hh_25 => ?_)
    clear hh
    refine lv_aload_n hx hb dX2_isInLength_11 rfl (lv_at hl 0 rfl) ?_
    refine lv_aload_n hx hb dX2_isInLength_12 rfl (lv_at hl 0 rfl) ?_
    refine j7_read hx hb hown hK (C := RX2) (T := TX2) (N := 12) rfl hly_4_11 hlk_70 (hh_25.at 1 rfl) dX2_isInLength_13 ?_
    refine j7_put hx hb hown hK hh_25 hB hAp hB4 (C := RX2) (T := TX2) (N := 12) rfl (by decide) hg_r0 (i := 6) (by decide) hly_4_6 rfl hlk_19 rfl (ty := .int) (v := .int sv) (by decide +kernel) rfl rfl (⟨_, rfl, by omega, by omega⟩) rfl (L1 := [(r0, 4, 5, .int 4), (r0, 4, 11, .int sv)]) [0, 1] rfl rfl rfl dX2_isInLength_16 (fun H_26 locs_26 hh_26 => ?_)
    clear hh_25
    refine lv_aload_n hx hb dX2_isInLength_19 rfl (lv_at hl 0 rfl) ?_
    obtain ⟨v_27, hv_27, hh_28⟩ := hh_26.pin (C := RX2) (T := TX2) (N := 12) hB4 rfl (by decide) hg_r0 (i := 10) (by decide) rfl
    clear hh_26
    obtain ⟨digits_29, rfl⟩ := hv_27
    refine j7_read hx hb hown hK (C := RX2) (T := TX2) (N := 12) rfl hly_4_10 hlk_67 (hh_28.at 0 rfl) dX2_isInLength_20 ?_
    refine lv_if_le (tgt := 30) hx hb dX2_isInLength_23 (by decide) (fun c_30 => ?_) (fun c_30 => ?_)
    · skip
      have c_30' : digits_29.toInt ≤ 0 := jb_le (rfl) ((by decide)) c_30
      refine lv_iconst (v := 0) hx hb dX2_isInLength_30 (by decide) ?_
      rw [hQ]
      exact W.zret (v := 0) hx hb hr (jb_nz (Or.inl rfl)) (fun t ht hW => ⟨⟨0, sv, rfl, ⟨(Or.inl rfl), by first | omega | (refine ⟨?_, ?_, ?_⟩ <;> (first | omega | rfl | assumption | decide | exact Or.inl rfl | exact Or.inr rfl | (simp only; omega)))⟩, hh_28.rt (M1 := [(r0, 4, 11, .int sv)]) [3] rfl ht⟩, by rw [ht]; try exact hh_28.1.1, fun q h9 hq => by rw [ht]; try exact hh_28.1.2.1 q h9 hq⟩) hh_28.1.2.2 dX2_isInLength_31
    · skip
      have c_30' : digits_29.toInt > 0 := jb_le_n (rfl) ((by decide)) c_30
      refine lv_iconst (v := 1) hx hb dX2_isInLength_26 (by decide) ?_
      refine lv_goto (tgt := 31) hx hb dX2_isInLength_27 (by decide) ?_
      rw [hQ]
      exact W.zret (v := 1) hx hb hr (jb_nz (Or.inr rfl)) (fun t ht hW => ⟨⟨1, sv, rfl, ⟨(Or.inr rfl), by first | omega | (refine ⟨?_, ?_, ?_⟩ <;> (first | omega | rfl | assumption | decide | exact Or.inl rfl | exact Or.inr rfl | (simp only; omega)))⟩, hh_28.rt (M1 := [(r0, 4, 11, .int sv)]) [3] rfl ht⟩, by rw [ht]; try exact hh_28.1.1, fun q h9 hq => by rw [ht]; try exact hh_28.1.2.1 q h9 hq⟩) hh_28.1.2.2 dX2_isInLength_31
set_option maxHeartbeats 4000000 in
set_option maxRecDepth 20000 in
theorem uX2_isInName (l : Launch) (dC : Nat → ClassId) (dI : Nat → Nat → Nat) (ca : Nat → ClassId) (base : Nat) (B : jF) (hB : jBok B) (hAp : jAp (dC, dI)) (hB4 : ∀ n G a H, B 4 n G a H ↔ jOb (dC, dI) 4 12 (F4 n G) a H) (G0 : jT) (H0 : Heap) (r0 : Nat) (a1 : Int32) (il : Int32) (sg : Int32) (sv : Int32) : Met l yX2_isInName (jw yX2_isInName cX2_isInName 3 (some .boolean)) ({ frames := 4, cells := 0, slots := 0, locals := 141 }) (va_Pc [.ref r0, .int a1] (fun U => U.heap = H0 ∧ jX B base G0 [] H0 ∧ jG dC dI ca base U ∧ G0 r0 = some (4, 0) ∧ jP (dC, dI) G0 H0 [(r0, 4, 9, .int il), (r0, 4, 8, .int sg), (r0, 4, 11, .int sv)] ∧ 0 ≤ sg.toInt + 4294967296 * (1 - il.toInt) ∧ sg.toInt ≤ 14 + 4294967296 * (1 - il.toInt) ∧ 0 ≤ il.toInt ∧ il.toInt ≤ 1 ∧ 0 ≤ sv.toInt ∧ sv.toInt ≤ 3000)) (va_Qi (S := Int32 × Int32 × Int32) (fun r u => (r = 0 ∨ r = 1) ∧ (0 ≤ u.2.1.toInt + 4294967296 * (1 - u.1.toInt) ∧ u.2.1.toInt ≤ 14 + 4294967296 * (1 - u.1.toInt) ∧ 0 ≤ u.1.toInt ∧ u.1.toInt ≤ 1 ∧ 0 ≤ u.2.2.toInt ∧ u.2.2.toInt ≤ 3000)) (fun u t => jRt (dC, dI) B base G0 EX2_isInName H0 [(r0, 4, 9, .int u.1), (r0, 4, 8, .int u.2.1), (r0, 4, 11, .int u.2.2)] t.heap) (jA base)) 0 0 (jA base) := by
  refine Met.ofW (cc := cX2_isInName) (maxL := 3) (ret := (some .boolean)) (by decide) rfl ?_
  intro p e s m args below meth c s₁ Bd hml hv
  obtain ⟨rfl, hH0, hX, hG, hg_r0, hP0, hp0, hp1, hp2, hp3, hp4, hp5⟩ := hv
  have hK := hG.1
  have hx := Bd.exec
  have hb := Bd.bytes
  have hr := Bd.returns
  have hts := atoms_spec (ws := (jw yX2_isInName cX2_isInName 3 (some .boolean))) Bd.pre
  have htw : ∀ w ∈ jWl, w.before _ s = true := fun w h => hts w (List.mem_cons_of_mem _ h)
  have hown : s.vm.findClass RX2 = some m.cls := findClass_of_methodNamed Bd.named
  have hlocks := Bd.notSynchronized
  obtain ⟨Q, hQ⟩ : ∃ Q, Q = MQ below (va_Qi (S := Int32 × Int32 × Int32) (fun r u => (r = 0 ∨ r = 1) ∧ (0 ≤ u.2.1.toInt + 4294967296 * (1 - u.1.toInt) ∧ u.2.1.toInt ≤ 14 + 4294967296 * (1 - u.1.toInt) ∧ 0 ≤ u.1.toInt ∧ u.1.toInt ≤ 1 ∧ 0 ≤ u.2.2.toInt ∧ u.2.2.toInt ≤ 3000)) (fun u t => jRt (dC, dI) B base G0 EX2_isInName H0 [(r0, 4, 9, .int u.1), (r0, 4, 8, .int u.2.1), (r0, 4, 11, .int u.2.2)] t.heap) (jA base)) ([.ref r0, .int a1] : List Value).toArray s 0 0 (jA base) := ⟨_, rfl⟩
  rw [← hQ]
  have hl := lv_entry ([.ref r0, .int a1]) (n := 3) (Nat.le_of_ble_eq_true rfl)
  rw [lg_entry_eq]
  generalize (lg_sl ([.ref r0, .int a1]) ++ List.replicate (3 - (lg_sl ([.ref r0, .int a1])).length) Slot.unset).toArray = ls at hl ⊢
  have hl : lv_has ls 3 [(0, .ref r0), (1, .int a1)] := hl
  generalize hR : (headSpec (jw yX2_isInName cX2_isInName 3 (some .boolean)) ({ frames := 4, cells := 0, slots := 0, locals := 141 })).room = R
  subst hH0
  have hh : jSt (dC, dI) B base G0 G0 EX2_isInName s.heap 0 0 [(r0, 4, 9, .int il), (r0, 4, 8, .int sg), (r0, 4, 11, .int sv)] [] [] s.heap [] := jSt.start hX hP0 jMc.nil jIs.nil
  clear hX hP0
  have hk0 : (0 : Int32).toInt = 0 := by decide
  have hk1 : (1 : Int32).toInt = 1 := by decide
  have hk2 : (2 : Int32).toInt = 2 := by decide
  have hk3 : (3 : Int32).toInt = 3 := by decide
  have hk32 : (32 : Int32).toInt = 32 := by decide
  have hk45 : (45 : Int32).toInt = 45 := by decide
  have hk58 : (58 : Int32).toInt = 58 := by decide
  have hk65 : (65 : Int32).toInt = 65 := by decide
  have hk90 : (90 : Int32).toInt = 90 := by decide
  have hk97 : (97 : Int32).toInt = 97 := by decide
  have hk122 : (122 : Int32).toInt = 122 := by decide
  have hly_4_5 := htw (u_lay RX2 TX2 5) (jWc_wsX20 _ (u_in_lay (by decide)))
  have hly_4_8 := htw (u_lay RX2 TX2 8) (jWc_wsX20 _ (u_in_lay (by decide)))
  have hly_4_9 := htw (u_lay RX2 TX2 9) (jWc_wsX20 _ (u_in_lay (by decide)))
  have hly_4_10 := htw (u_lay RX2 TX2 10) (jWc_wsX20 _ (u_in_lay (by decide)))
  have hly_4_11 := htw (u_lay RX2 TX2 11) (jWc_wsX20 _ (u_in_lay (by decide)))
  have hlk_57 := (htw (.fieldLink RX2 57 "ProofServer$Frames" "isLengthName" "Z") (jWr_18 _ (List.mem_of_getElem? (i := 4) rfl)))
  have hlk_54 := (htw (.fieldLink RX2 54 "ProofServer$Frames" "signs" "I") (jWr_18 _ (List.mem_of_getElem? (i := 3) rfl)))
  obtain ⟨str60, rstr60, hstr600⟩ := hG.str (o := RX2) (k := 60) (tx := "content-length") (List.mem_of_getElem? (i := 613) (by decide +kernel))
  have hstr60 : jStr base str60 14 s s.heap := hstr600
  have hlk_15 := (htw (.fieldLink RX2 15 "ProofServer$Frames" "place" "I") (jWr_3 _ (List.mem_of_getElem? (i := 15) rfl)))
  have hlk_67 := (htw (.fieldLink RX2 67 "ProofServer$Frames" "digits" "I") (jWr_18 _ (List.mem_of_getElem? (i := 9) rfl)))
  have hlk_70 := (htw (.fieldLink RX2 70 "ProofServer$Frames" "value" "I") (jWr_18 _ (List.mem_of_getElem? (i := 10) rfl)))
  have hrg_a1 := jb_rng a1
  refine lv_iload_n hx hb dX2_isInName_0 rfl (lv_at hl 1 rfl) ?_
  refine lv_bipush (v := 58) hx hb dX2_isInName_1 (by decide) ?_
  refine lv_icmp_ne (tgt := 46) hx hb dX2_isInName_3 (by decide) (fun c_1 => ?_) (fun c_1 => ?_)
  · skip
    have c_1' : a1.toInt ≠ 58 := jb_ne (rfl) ((by decide)) c_1
    refine lv_iload_n hx hb dX2_isInName_46 rfl (lv_at hl 1 rfl) ?_
    refine lv_bipush (v := 65) hx hb dX2_isInName_47 (by decide) ?_
    refine lv_icmp_lt (tgt := 65) hx hb dX2_isInName_49 (by decide) (fun c_2 => ?_) (fun c_2 => ?_)
    · skip
      have c_2' : a1.toInt < 65 := jb_lt (rfl) ((by decide)) c_2
      refine lv_iload_n hx hb dX2_isInName_65 rfl (lv_at hl 1 rfl) ?_
      refine lv_istore_n (lv' := [(2, .int a1), (0, .ref r0), (1, .int a1)]) hx hb dX2_isInName_66 rfl hl (by decide) rfl (fun ls hl => ?_)
      refine lv_aload_n hx hb dX2_isInName_67 rfl (lv_at hl 1 rfl) ?_
      refine lv_aload_n hx hb dX2_isInName_68 rfl (lv_at hl 1 rfl) ?_
      refine j7_read hx hb hown hK (C := RX2) (T := TX2) (N := 12) rfl hly_4_9 hlk_57 (hh.at 0 rfl) dX2_isInName_69 ?_
      refine lv_if_eq (tgt := 104) hx hb dX2_isInName_72 (by decide) (fun c_3 => ?_) (fun c_3 => ?_)
      · skip
        have c_3' : il.toInt = 0 := jb_eq (rfl) ((by decide)) c_3
        refine lv_iconst (v := 0) hx hb dX2_isInName_104 (by decide) ?_
        refine j7_put hx hb hown hK hh hB hAp hB4 (C := RX2) (T := TX2) (N := 12) rfl (by decide) hg_r0 (i := 9) (by decide) hly_4_9 rfl hlk_57 rfl (ty := .boolean) (v := .int 0) (by decide +kernel) (jb_nz (Or.inl rfl)) (jb_fz (Or.inl rfl)) (⟨_, rfl, (Or.inl rfl)⟩) rfl (L1 := [(r0, 4, 8, .int sg), (r0, 4, 11, .int sv)]) [1, 2] rfl rfl rfl dX2_isInName_105 (fun H_4 locs_4 hh_4 => ?_)
        clear hh
        refine lv_aload_n hx hb dX2_isInName_108 rfl (lv_at hl 1 rfl) ?_
        refine lv_dup hx hb dX2_isInName_109 rfl ?_
        refine j7_read hx hb hown hK (C := RX2) (T := TX2) (N := 12) rfl hly_4_8 hlk_54 (hh_4.at 1 rfl) dX2_isInName_110 ?_
        refine lv_iconst (v := 1) hx hb dX2_isInName_113 (by decide) ?_
        refine lv_iadd hx hb dX2_isInName_114 ?_
        refine lv_topi (fun z_5 ez_5 => ?_)
        first | have hz_5 : z_5.toInt = sg.toInt + 1 := by rw [ez_5]; exact jb_iadd2 (rfl) ((by decide)) (by omega) | have hz_5 := jb_rng z_5
        refine j7_put hx hb hown hK hh_4 hB hAp hB4 (C := RX2) (T := TX2) (N := 12) rfl (by decide) hg_r0 (i := 8) (by decide) hly_4_8 rfl hlk_54 rfl (ty := .int) (v := .int z_5) (by decide +kernel) rfl rfl (⟨_, rfl⟩) rfl (L1 := [(r0, 4, 9, .int 0), (r0, 4, 11, .int sv)]) [0, 2] rfl rfl rfl dX2_isInName_115 (fun H_6 locs_6 hh_6 => ?_)
        clear hh_4
        refine lv_iload_n hx hb dX2_isInName_118 rfl (lv_at hl 0 rfl) ?_
        refine lv_bipush (v := 45) hx hb dX2_isInName_119 (by decide) ?_
        refine lv_icmp_eq (tgt := 136) hx hb dX2_isInName_121 (by decide) (fun c_7 => ?_) (fun c_7 => ?_)
        · skip
          have c_7' : a1.toInt = 45 := jb_eq (rfl) ((by decide)) c_7
          refine lv_iconst (v := 1) hx hb dX2_isInName_136 (by decide) ?_
          refine lv_goto (tgt := 141) hx hb dX2_isInName_137 (by decide) ?_
          rw [hQ]
          exact W.zret (v := 1) hx hb hr (jb_nz (Or.inr rfl)) (fun t ht hW => ⟨⟨1, (0, z_5, sv), rfl, ⟨(Or.inr rfl), by first | omega | (refine ⟨?_, ?_, ?_, ?_, ?_, ?_⟩ <;> (first | omega | rfl | assumption | decide | exact Or.inl rfl | exact Or.inr rfl | (simp only; omega)))⟩, hh_6.rt (M1 := [(r0, 4, 9, .int 0), (r0, 4, 8, .int z_5), (r0, 4, 11, .int sv)]) [1, 0, 2] rfl ht⟩, by rw [ht]; try exact hh_6.1.1, fun q h9 hq => by rw [ht]; try exact hh_6.1.2.1 q h9 hq⟩) hh_6.1.2.2 dX2_isInName_141
        · skip
          have c_7' : a1.toInt ≠ 45 := jb_eq_n (rfl) ((by decide)) c_7
          refine lv_iload_n hx hb dX2_isInName_124 rfl (lv_at hl 0 rfl) ?_
          refine lv_bipush (v := 97) hx hb dX2_isInName_125 (by decide) ?_
          refine lv_icmp_lt (tgt := 140) hx hb dX2_isInName_127 (by decide) (fun c_8 => ?_) (fun c_8 => ?_)
          · skip
            have c_8' : a1.toInt < 97 := jb_lt (rfl) ((by decide)) c_8
            refine lv_iconst (v := 0) hx hb dX2_isInName_140 (by decide) ?_
            rw [hQ]
            exact W.zret (v := 0) hx hb hr (jb_nz (Or.inl rfl)) (fun t ht hW => ⟨⟨0, (0, z_5, sv), rfl, ⟨(Or.inl rfl), by first | omega | (refine ⟨?_, ?_, ?_, ?_, ?_, ?_⟩ <;> (first | omega | rfl | assumption | decide | exact Or.inl rfl | exact Or.inr rfl | (simp only; omega)))⟩, hh_6.rt (M1 := [(r0, 4, 9, .int 0), (r0, 4, 8, .int z_5), (r0, 4, 11, .int sv)]) [1, 0, 2] rfl ht⟩, by rw [ht]; try exact hh_6.1.1, fun q h9 hq => by rw [ht]; try exact hh_6.1.2.1 q h9 hq⟩) hh_6.1.2.2 dX2_isInName_141
          · skip
            have c_8' : a1.toInt ≥ 97 := jb_lt_n (rfl) ((by decide)) c_8
            refine lv_iload_n hx hb dX2_isInName_130 rfl (lv_at hl 0 rfl) ?_
            refine lv_bipush (v := 122) hx hb dX2_isInName_131 (by decide) ?_
            refine lv_icmp_gt (tgt := 140) hx hb dX2_isInName_133 (by decide) (fun c_9 => ?_) (fun c_9 => ?_)
            · skip
              have c_9' : a1.toInt > 122 := jb_gt (rfl) ((by decide)) c_9
              refine lv_iconst (v := 0) hx hb dX2_isInName_140 (by decide) ?_
              rw [hQ]
              exact W.zret (v := 0) hx hb hr (jb_nz (Or.inl rfl)) (fun t ht hW => ⟨⟨0, (0, z_5, sv), rfl, ⟨(Or.inl rfl), by first | omega | (refine ⟨?_, ?_, ?_, ?_, ?_, ?_⟩ <;> (first | omega | rfl | assumption | decide | exact Or.inl rfl | exact Or.inr rfl | (simp only; omega)))⟩, hh_6.rt (M1 := [(r0, 4, 9, .int 0), (r0, 4, 8, .int z_5), (r0, 4, 11, .int sv)]) [1, 0, 2] rfl ht⟩, by rw [ht]; try exact hh_6.1.1, fun q h9 hq => by rw [ht]; try exact hh_6.1.2.1 q h9 hq⟩) hh_6.1.2.2 dX2_isInName_141
            · skip
              have c_9' : a1.toInt ≤ 122 := jb_gt_n (rfl) ((by decide)) c_9
              refine lv_iconst (v := 1) hx hb dX2_isInName_136 (by decide) ?_
              refine lv_goto (tgt := 141) hx hb dX2_isInName_137 (by decide) ?_
              rw [hQ]
              exact W.zret (v := 1) hx hb hr (jb_nz (Or.inr rfl)) (fun t ht hW => ⟨⟨1, (0, z_5, sv), rfl, ⟨(Or.inr rfl), by first | omega | (refine ⟨?_, ?_, ?_, ?_, ?_, ?_⟩ <;> (first | omega | rfl | assumption | decide | exact Or.inl rfl | exact Or.inr rfl | (simp only; omega)))⟩, hh_6.rt (M1 := [(r0, 4, 9, .int 0), (r0, 4, 8, .int z_5), (r0, 4, 11, .int sv)]) [1, 0, 2] rfl ht⟩, by rw [ht]; try exact hh_6.1.1, fun q h9 hq => by rw [ht]; try exact hh_6.1.2.1 q h9 hq⟩) hh_6.1.2.2 dX2_isInName_141
      · skip
        have c_3' : il.toInt ≠ 0 := jb_eq_n (rfl) ((by decide)) c_3
        refine lv_aload_n hx hb dX2_isInName_75 rfl (lv_at hl 1 rfl) ?_
        refine j7_read hx hb hown hK (C := RX2) (T := TX2) (N := 12) rfl hly_4_8 hlk_54 (hh.at 1 rfl) dX2_isInName_76 ?_
        refine va_ldcS hx hb hown rstr60 dX2_isInName_79 ?_
        refine vp_callSi (W.runV (As := []) (rest := [.int sg, .ref r0]) ⟨hx, hb, hml, hown, hts⟩ (wJ0_length_8abf5 l dC dI ca base s.heap str60 14) (cwV 0 hts (jgV (jWr_18 _ (List.mem_of_getElem? (i := 11) rfl)) (jWr_5 _ (List.mem_of_getElem? (i := 13) rfl)) (jWr_5 _ (List.mem_of_getElem? (i := 14) rfl)) (jWr_5 _ (List.mem_of_getElem? (i := 15) rfl)) (jWr_5 _ (List.mem_of_getElem? (i := 16) rfl))) rfl rfl rfl (by decide +kernel) ⟨by rw [← hR]; exact Nat.le_of_ble_eq_true rfl, by rw [← hR]; exact Nat.le_of_ble_eq_true rfl⟩) ⟨fun a U g mk q => by obtain ⟨q0, q1, q2, qK, q9⟩ := q; exact ⟨q0, q1, (q2.moved (Vm.Alike.refl U.vm)), jG.calling g mk a qK, q9⟩, jStr_recv hstr60 hh.1, fun U hU hW => ⟨rfl, hU, (hstr60.moved hW.alike).kept hh.1.2.1, hG.step hW hU hh.1, by omega⟩⟩ rfl rfl hl.1 rfl (lv_room (Nat.le_of_ble_eq_true rfl)) dX2_isInName_81 ⟨Nat.zero_le _, Nat.zero_le _⟩) (fun r_10 hr_10 => ?_)
        refine lv_icmp_ge (tgt := 104) hx hb dX2_isInName_84 (by decide) (fun c_11 => ?_) (fun c_11 => ?_)
        · skip
          have c_11' : sg.toInt ≥ r_10.toInt := jb_ge (rfl) (rfl) c_11
          refine lv_iconst (v := 0) hx hb dX2_isInName_104 (by decide) ?_
          refine j7_put hx hb hown hK hh hB hAp hB4 (C := RX2) (T := TX2) (N := 12) rfl (by decide) hg_r0 (i := 9) (by decide) hly_4_9 rfl hlk_57 rfl (ty := .boolean) (v := .int 0) (by decide +kernel) (jb_nz (Or.inl rfl)) (jb_fz (Or.inl rfl)) (⟨_, rfl, (Or.inl rfl)⟩) rfl (L1 := [(r0, 4, 8, .int sg), (r0, 4, 11, .int sv)]) [1, 2] rfl rfl rfl dX2_isInName_105 (fun H_12 locs_12 hh_12 => ?_)
          clear hh
          refine lv_aload_n hx hb dX2_isInName_108 rfl (lv_at hl 1 rfl) ?_
          refine lv_dup hx hb dX2_isInName_109 rfl ?_
          refine j7_read hx hb hown hK (C := RX2) (T := TX2) (N := 12) rfl hly_4_8 hlk_54 (hh_12.at 1 rfl) dX2_isInName_110 ?_
          refine lv_iconst (v := 1) hx hb dX2_isInName_113 (by decide) ?_
          refine lv_iadd hx hb dX2_isInName_114 ?_
          refine lv_topi (fun z_13 ez_13 => ?_)
          first | have hz_13 : z_13.toInt = sg.toInt + 1 := by rw [ez_13]; exact jb_iadd2 (rfl) ((by decide)) (by omega) | have hz_13 := jb_rng z_13
          refine j7_put hx hb hown hK hh_12 hB hAp hB4 (C := RX2) (T := TX2) (N := 12) rfl (by decide) hg_r0 (i := 8) (by decide) hly_4_8 rfl hlk_54 rfl (ty := .int) (v := .int z_13) (by decide +kernel) rfl rfl (⟨_, rfl⟩) rfl (L1 := [(r0, 4, 9, .int 0), (r0, 4, 11, .int sv)]) [0, 2] rfl rfl rfl dX2_isInName_115 (fun H_14 locs_14 hh_14 => ?_)
          clear hh_12
          refine lv_iload_n hx hb dX2_isInName_118 rfl (lv_at hl 0 rfl) ?_
          refine lv_bipush (v := 45) hx hb dX2_isInName_119 (by decide) ?_
          refine lv_icmp_eq (tgt := 136) hx hb dX2_isInName_121 (by decide) (fun c_15 => ?_) (fun c_15 => ?_)
          · skip
            have c_15' : a1.toInt = 45 := jb_eq (rfl) ((by decide)) c_15
            refine lv_iconst (v := 1) hx hb dX2_isInName_136 (by decide) ?_
            refine lv_goto (tgt := 141) hx hb dX2_isInName_137 (by decide) ?_
            rw [hQ]
            exact W.zret (v := 1) hx hb hr (jb_nz (Or.inr rfl)) (fun t ht hW => ⟨⟨1, (0, z_13, sv), rfl, ⟨(Or.inr rfl), by first | omega | (refine ⟨?_, ?_, ?_, ?_, ?_, ?_⟩ <;> (first | omega | rfl | assumption | decide | exact Or.inl rfl | exact Or.inr rfl | (simp only; omega)))⟩, hh_14.rt (M1 := [(r0, 4, 9, .int 0), (r0, 4, 8, .int z_13), (r0, 4, 11, .int sv)]) [1, 0, 2] rfl ht⟩, by rw [ht]; try exact hh_14.1.1, fun q h9 hq => by rw [ht]; try exact hh_14.1.2.1 q h9 hq⟩) hh_14.1.2.2 dX2_isInName_141
          · skip
            have c_15' : a1.toInt ≠ 45 := jb_eq_n (rfl) ((by decide)) c_15
            refine lv_iload_n hx hb dX2_isInName_124 rfl (lv_at hl 0 rfl) ?_
            refine lv_bipush (v := 97) hx hb dX2_isInName_125 (by decide) ?_
            refine lv_icmp_lt (tgt := 140) hx hb dX2_isInName_127 (by decide) (fun c_16 => ?_) (fun c_16 => ?_)
            · skip
              have c_16' : a1.toInt < 97 := jb_lt (rfl) ((by decide)) c_16
              refine lv_iconst (v := 0) hx hb dX2_isInName_140 (by decide) ?_
              rw [hQ]
              exact W.zret (v := 0) hx hb hr (jb_nz (Or.inl rfl)) (fun t ht hW => ⟨⟨0, (0, z_13, sv), rfl, ⟨(Or.inl rfl), by first | omega | (refine ⟨?_, ?_, ?_, ?_, ?_, ?_⟩ <;> (first | omega | rfl | assumption | decide | exact Or.inl rfl | exact Or.inr rfl | (simp only; omega)))⟩, hh_14.rt (M1 := [(r0, 4, 9, .int 0), (r0, 4, 8, .int z_13), (r0, 4, 11, .int sv)]) [1, 0, 2] rfl ht⟩, by rw [ht]; try exact hh_14.1.1, fun q h9 hq => by rw [ht]; try exact hh_14.1.2.1 q h9 hq⟩) hh_14.1.2.2 dX2_isInName_141
            · skip
              have c_16' : a1.toInt ≥ 97 := jb_lt_n (rfl) ((by decide)) c_16
              refine lv_iload_n hx hb dX2_isInName_130 rfl (lv_at hl 0 rfl) ?_
              refine lv_bipush (v := 122) hx hb dX2_isInName_131 (by decide) ?_
              refine lv_icmp_gt (tgt := 140) hx hb dX2_isInName_133 (by decide) (fun c_17 => ?_) (fun c_17 => ?_)
              · skip
                have c_17' : a1.toInt > 122 := jb_gt (rfl) ((by decide)) c_17
                refine lv_iconst (v := 0) hx hb dX2_isInName_140 (by decide) ?_
                rw [hQ]
                exact W.zret (v := 0) hx hb hr (jb_nz (Or.inl rfl)) (fun t ht hW => ⟨⟨0, (0, z_13, sv), rfl, ⟨(Or.inl rfl), by first | omega | (refine ⟨?_, ?_, ?_, ?_, ?_, ?_⟩ <;> (first | omega | rfl | assumption | decide | exact Or.inl rfl | exact Or.inr rfl | (simp only; omega)))⟩, hh_14.rt (M1 := [(r0, 4, 9, .int 0), (r0, 4, 8, .int z_13), (r0, 4, 11, .int sv)]) [1, 0, 2] rfl ht⟩, by rw [ht]; try exact hh_14.1.1, fun q h9 hq => by rw [ht]; try exact hh_14.1.2.1 q h9 hq⟩) hh_14.1.2.2 dX2_isInName_141
              · skip
                have c_17' : a1.toInt ≤ 122 := jb_gt_n (rfl) ((by decide)) c_17
                refine lv_iconst (v := 1) hx hb dX2_isInName_136 (by decide) ?_
                refine lv_goto (tgt := 141) hx hb dX2_isInName_137 (by decide) ?_
                rw [hQ]
                exact W.zret (v := 1) hx hb hr (jb_nz (Or.inr rfl)) (fun t ht hW => ⟨⟨1, (0, z_13, sv), rfl, ⟨(Or.inr rfl), by first | omega | (refine ⟨?_, ?_, ?_, ?_, ?_, ?_⟩ <;> (first | omega | rfl | assumption | decide | exact Or.inl rfl | exact Or.inr rfl | (simp only; omega)))⟩, hh_14.rt (M1 := [(r0, 4, 9, .int 0), (r0, 4, 8, .int z_13), (r0, 4, 11, .int sv)]) [1, 0, 2] rfl ht⟩, by rw [ht]; try exact hh_14.1.1, fun q h9 hq => by rw [ht]; try exact hh_14.1.2.1 q h9 hq⟩) hh_14.1.2.2 dX2_isInName_141
        · skip
          have c_11' : sg.toInt < r_10.toInt := jb_ge_n (rfl) (rfl) c_11
          refine va_ldcS hx hb hown rstr60 dX2_isInName_87 ?_
          refine lv_aload_n hx hb dX2_isInName_89 rfl (lv_at hl 1 rfl) ?_
          refine j7_read hx hb hown hK (C := RX2) (T := TX2) (N := 12) rfl hly_4_8 hlk_54 (hh.at 1 rfl) dX2_isInName_90 ?_
          refine vp_callSi (W.runV (As := [.int sg]) (rest := [.ref r0]) ⟨hx, hb, hml, hown, hts⟩ (wJ0_charAt_5068e l dC dI ca base s.heap str60 14 sg) (cwV 1 hts (jgV (jWr_18 _ (List.mem_of_getElem? (i := 12) rfl)) (jWr_6 _ (List.mem_of_getElem? (i := 1) rfl)) (jWr_6 _ (List.mem_of_getElem? (i := 2) rfl)) (jWr_5 _ (List.mem_of_getElem? (i := 15) rfl)) (jWr_6 _ (List.mem_of_getElem? (i := 3) rfl))) rfl rfl rfl (by decide +kernel) ⟨by rw [← hR]; exact Nat.le_of_ble_eq_true rfl, by rw [← hR]; exact Nat.le_of_ble_eq_true rfl⟩) ⟨fun a U g mk q => by obtain ⟨q0, q1, q2, qK, q9⟩ := q; exact ⟨q0, q1, (q2.moved (Vm.Alike.refl U.vm)), jG.calling g mk a qK, q9⟩, jStr_recv hstr60 hh.1, fun U hU hW => ⟨rfl, hU, (hstr60.moved hW.alike).kept hh.1.2.1, hG.step hW hU hh.1, ⟨by omega, by omega, by omega⟩⟩⟩ rfl rfl hl.1 rfl (lv_room (Nat.le_of_ble_eq_true rfl)) dX2_isInName_93 ⟨Nat.zero_le _, Nat.zero_le _⟩) (fun r_18 hr_18 => ?_)
          refine lv_iload_n hx hb dX2_isInName_96 rfl (lv_at hl 0 rfl) ?_
          refine lv_icmp_ne (tgt := 104) hx hb dX2_isInName_97 (by decide) (fun c_19 => ?_) (fun c_19 => ?_)
          · skip
            have c_19' : r_18.toInt ≠ a1.toInt := jb_ne (rfl) (rfl) c_19
            refine lv_iconst (v := 0) hx hb dX2_isInName_104 (by decide) ?_
            refine j7_put hx hb hown hK hh hB hAp hB4 (C := RX2) (T := TX2) (N := 12) rfl (by decide) hg_r0 (i := 9) (by decide) hly_4_9 rfl hlk_57 rfl (ty := .boolean) (v := .int 0) (by decide +kernel) (jb_nz (Or.inl rfl)) (jb_fz (Or.inl rfl)) (⟨_, rfl, (Or.inl rfl)⟩) rfl (L1 := [(r0, 4, 8, .int sg), (r0, 4, 11, .int sv)]) [1, 2] rfl rfl rfl dX2_isInName_105 (fun H_20 locs_20 hh_20 => ?_)
            clear hh
            refine lv_aload_n hx hb dX2_isInName_108 rfl (lv_at hl 1 rfl) ?_
            refine lv_dup hx hb dX2_isInName_109 rfl ?_
            refine j7_read hx hb hown hK (C := RX2) (T := TX2) (N := 12) rfl hly_4_8 hlk_54 (hh_20.at 1 rfl) dX2_isInName_110 ?_
            refine lv_iconst (v := 1) hx hb dX2_isInName_113 (by decide) ?_
            refine lv_iadd hx hb dX2_isInName_114 ?_
            refine lv_topi (fun z_21 ez_21 => ?_)
            first | have hz_21 : z_21.toInt = sg.toInt + 1 := by rw [ez_21]; exact jb_iadd2 (rfl) ((by decide)) (by omega) | have hz_21 := jb_rng z_21
            refine j7_put hx hb hown hK hh_20 hB hAp hB4 (C := RX2) (T := TX2) (N := 12) rfl (by decide) hg_r0 (i := 8) (by decide) hly_4_8 rfl hlk_54 rfl (ty := .int) (v := .int z_21) (by decide +kernel) rfl rfl (⟨_, rfl⟩) rfl (L1 := [(r0, 4, 9, .int 0), (r0, 4, 11, .int sv)]) [0, 2] rfl rfl rfl dX2_isInName_115 (fun H_22 locs_22 hh_22 => ?_)
            clear hh_20
            refine lv_iload_n hx hb dX2_isInName_118 rfl (lv_at hl 0 rfl) ?_
            refine lv_bipush (v := 45) hx hb dX2_isInName_119 (by decide) ?_
            refine lv_icmp_eq (tgt := 136) hx hb dX2_isInName_121 (by decide) (fun c_23 => ?_) (fun c_23 => ?_)
            · skip
              have c_23' : a1.toInt = 45 := jb_eq (rfl) ((by decide)) c_23
              refine lv_iconst (v := 1) hx hb dX2_isInName_136 (by decide) ?_
              refine lv_goto (tgt := 141) hx hb dX2_isInName_137 (by decide) ?_
              rw [hQ]
              exact W.zret (v := 1) hx hb hr (jb_nz (Or.inr rfl)) (fun t ht hW => ⟨⟨1, (0, z_21, sv), rfl, ⟨(Or.inr rfl), by first | omega | (refine ⟨?_, ?_, ?_, ?_, ?_, ?_⟩ <;> (first | omega | rfl | assumption | decide | exact Or.inl rfl | exact Or.inr rfl | (simp only; omega)))⟩, hh_22.rt (M1 := [(r0, 4, 9, .int 0), (r0, 4, 8, .int z_21), (r0, 4, 11, .int sv)]) [1, 0, 2] rfl ht⟩, by rw [ht]; try exact hh_22.1.1, fun q h9 hq => by rw [ht]; try exact hh_22.1.2.1 q h9 hq⟩) hh_22.1.2.2 dX2_isInName_141
            · skip
              have c_23' : a1.toInt ≠ 45 := jb_eq_n (rfl) ((by decide)) c_23
              refine lv_iload_n hx hb dX2_isInName_124 rfl (lv_at hl 0 rfl) ?_
              refine lv_bipush (v := 97) hx hb dX2_isInName_125 (by decide) ?_
              refine lv_icmp_lt (tgt := 140) hx hb dX2_isInName_127 (by decide) (fun c_24 => ?_) (fun c_24 => ?_)
              · skip
                have c_24' : a1.toInt < 97 := jb_lt (rfl) ((by decide)) c_24
                refine lv_iconst (v := 0) hx hb dX2_isInName_140 (by decide) ?_
                rw [hQ]
                exact W.zret (v := 0) hx hb hr (jb_nz (Or.inl rfl)) (fun t ht hW => ⟨⟨0, (0, z_21, sv), rfl, ⟨(Or.inl rfl), by first | omega | (refine ⟨?_, ?_, ?_, ?_, ?_, ?_⟩ <;> (first | omega | rfl | assumption | decide | exact Or.inl rfl | exact Or.inr rfl | (simp only; omega)))⟩, hh_22.rt (M1 := [(r0, 4, 9, .int 0), (r0, 4, 8, .int z_21), (r0, 4, 11, .int sv)]) [1, 0, 2] rfl ht⟩, by rw [ht]; try exact hh_22.1.1, fun q h9 hq => by rw [ht]; try exact hh_22.1.2.1 q h9 hq⟩) hh_22.1.2.2 dX2_isInName_141
              · skip
                have c_24' : a1.toInt ≥ 97 := jb_lt_n (rfl) ((by decide)) c_24
                refine lv_iload_n hx hb dX2_isInName_130 rfl (lv_at hl 0 rfl) ?_
                refine lv_bipush (v := 122) hx hb dX2_isInName_131 (by decide) ?_
                refine lv_icmp_gt (tgt := 140) hx hb dX2_isInName_133 (by decide) (fun c_25 => ?_) (fun c_25 => ?_)
                · skip
                  have c_25' : a1.toInt > 122 := jb_gt (rfl) ((by decide)) c_25
                  refine lv_iconst (v := 0) hx hb dX2_isInName_140 (by decide) ?_
                  rw [hQ]
                  exact W.zret (v := 0) hx hb hr (jb_nz (Or.inl rfl)) (fun t ht hW => ⟨⟨0, (0, z_21, sv), rfl, ⟨(Or.inl rfl), by first | omega | (refine ⟨?_, ?_, ?_, ?_, ?_, ?_⟩ <;> (first | omega | rfl | assumption | decide | exact Or.inl rfl | exact Or.inr rfl | (simp only; omega)))⟩, hh_22.rt (M1 := [(r0, 4, 9, .int 0), (r0, 4, 8, .int z_21), (r0, 4, 11, .int sv)]) [1, 0, 2] rfl ht⟩, by rw [ht]; try exact hh_22.1.1, fun q h9 hq => by rw [ht]; try exact hh_22.1.2.1 q h9 hq⟩) hh_22.1.2.2 dX2_isInName_141
                · skip
                  have c_25' : a1.toInt ≤ 122 := jb_gt_n (rfl) ((by decide)) c_25
                  refine lv_iconst (v := 1) hx hb dX2_isInName_136 (by decide) ?_
                  refine lv_goto (tgt := 141) hx hb dX2_isInName_137 (by decide) ?_
                  rw [hQ]
                  exact W.zret (v := 1) hx hb hr (jb_nz (Or.inr rfl)) (fun t ht hW => ⟨⟨1, (0, z_21, sv), rfl, ⟨(Or.inr rfl), by first | omega | (refine ⟨?_, ?_, ?_, ?_, ?_, ?_⟩ <;> (first | omega | rfl | assumption | decide | exact Or.inl rfl | exact Or.inr rfl | (simp only; omega)))⟩, hh_22.rt (M1 := [(r0, 4, 9, .int 0), (r0, 4, 8, .int z_21), (r0, 4, 11, .int sv)]) [1, 0, 2] rfl ht⟩, by rw [ht]; try exact hh_22.1.1, fun q h9 hq => by rw [ht]; try exact hh_22.1.2.1 q h9 hq⟩) hh_22.1.2.2 dX2_isInName_141
          · skip
            have c_19' : r_18.toInt = a1.toInt := jb_ne_n (rfl) (rfl) c_19
            refine lv_iconst (v := 1) hx hb dX2_isInName_100 (by decide) ?_
            refine lv_goto (tgt := 105) hx hb dX2_isInName_101 (by decide) ?_
            refine j7_put hx hb hown hK hh hB hAp hB4 (C := RX2) (T := TX2) (N := 12) rfl (by decide) hg_r0 (i := 9) (by decide) hly_4_9 rfl hlk_57 rfl (ty := .boolean) (v := .int 1) (by decide +kernel) (jb_nz (Or.inr rfl)) (jb_fz (Or.inr rfl)) (⟨_, rfl, (Or.inr rfl)⟩) rfl (L1 := [(r0, 4, 8, .int sg), (r0, 4, 11, .int sv)]) [1, 2] rfl rfl rfl dX2_isInName_105 (fun H_26 locs_26 hh_26 => ?_)
            clear hh
            refine lv_aload_n hx hb dX2_isInName_108 rfl (lv_at hl 1 rfl) ?_
            refine lv_dup hx hb dX2_isInName_109 rfl ?_
            refine j7_read hx hb hown hK (C := RX2) (T := TX2) (N := 12) rfl hly_4_8 hlk_54 (hh_26.at 1 rfl) dX2_isInName_110 ?_
            refine lv_iconst (v := 1) hx hb dX2_isInName_113 (by decide) ?_
            refine lv_iadd hx hb dX2_isInName_114 ?_
            refine lv_topi (fun z_27 ez_27 => ?_)
            first | have hz_27 : z_27.toInt = sg.toInt + 1 := by rw [ez_27]; exact jb_iadd2 (rfl) ((by decide)) (by omega) | have hz_27 := jb_rng z_27
            refine j7_put hx hb hown hK hh_26 hB hAp hB4 (C := RX2) (T := TX2) (N := 12) rfl (by decide) hg_r0 (i := 8) (by decide) hly_4_8 rfl hlk_54 rfl (ty := .int) (v := .int z_27) (by decide +kernel) rfl rfl (⟨_, rfl⟩) rfl (L1 := [(r0, 4, 9, .int 1), (r0, 4, 11, .int sv)]) [0, 2] rfl rfl rfl dX2_isInName_115 (fun H_28 locs_28 hh_28 => ?_)
            clear hh_26
            refine lv_iload_n hx hb dX2_isInName_118 rfl (lv_at hl 0 rfl) ?_
            refine lv_bipush (v := 45) hx hb dX2_isInName_119 (by decide) ?_
            refine lv_icmp_eq (tgt := 136) hx hb dX2_isInName_121 (by decide) (fun c_29 => ?_) (fun c_29 => ?_)
            · skip
              have c_29' : a1.toInt = 45 := jb_eq (rfl) ((by decide)) c_29
              refine lv_iconst (v := 1) hx hb dX2_isInName_136 (by decide) ?_
              refine lv_goto (tgt := 141) hx hb dX2_isInName_137 (by decide) ?_
              rw [hQ]
              exact W.zret (v := 1) hx hb hr (jb_nz (Or.inr rfl)) (fun t ht hW => ⟨⟨1, (1, z_27, sv), rfl, ⟨(Or.inr rfl), by first | omega | (refine ⟨?_, ?_, ?_, ?_, ?_, ?_⟩ <;> (first | omega | rfl | assumption | decide | exact Or.inl rfl | exact Or.inr rfl | (simp only; omega)))⟩, hh_28.rt (M1 := [(r0, 4, 9, .int 1), (r0, 4, 8, .int z_27), (r0, 4, 11, .int sv)]) [1, 0, 2] rfl ht⟩, by rw [ht]; try exact hh_28.1.1, fun q h9 hq => by rw [ht]; try exact hh_28.1.2.1 q h9 hq⟩) hh_28.1.2.2 dX2_isInName_141
            · skip
              have c_29' : a1.toInt ≠ 45 := jb_eq_n (rfl) ((by decide)) c_29
              refine lv_iload_n hx hb dX2_isInName_124 rfl (lv_at hl 0 rfl) ?_
              refine lv_bipush (v := 97) hx hb dX2_isInName_125 (by decide) ?_
              refine lv_icmp_lt (tgt := 140) hx hb dX2_isInName_127 (by decide) (fun c_30 => ?_) (fun c_30 => ?_)
              · skip
                have c_30' : a1.toInt < 97 := jb_lt (rfl) ((by decide)) c_30
                refine lv_iconst (v := 0) hx hb dX2_isInName_140 (by decide) ?_
                rw [hQ]
                exact W.zret (v := 0) hx hb hr (jb_nz (Or.inl rfl)) (fun t ht hW => ⟨⟨0, (1, z_27, sv), rfl, ⟨(Or.inl rfl), by first | omega | (refine ⟨?_, ?_, ?_, ?_, ?_, ?_⟩ <;> (first | omega | rfl | assumption | decide | exact Or.inl rfl | exact Or.inr rfl | (simp only; omega)))⟩, hh_28.rt (M1 := [(r0, 4, 9, .int 1), (r0, 4, 8, .int z_27), (r0, 4, 11, .int sv)]) [1, 0, 2] rfl ht⟩, by rw [ht]; try exact hh_28.1.1, fun q h9 hq => by rw [ht]; try exact hh_28.1.2.1 q h9 hq⟩) hh_28.1.2.2 dX2_isInName_141
              · skip
                have c_30' : a1.toInt ≥ 97 := jb_lt_n (rfl) ((by decide)) c_30
                refine lv_iload_n hx hb dX2_isInName_130 rfl (lv_at hl 0 rfl) ?_
                refine lv_bipush (v := 122) hx hb dX2_isInName_131 (by decide) ?_
                refine lv_icmp_gt (tgt := 140) hx hb dX2_isInName_133 (by decide) (fun c_31 => ?_) (fun c_31 => ?_)
                · skip
                  have c_31' : a1.toInt > 122 := jb_gt (rfl) ((by decide)) c_31
                  refine lv_iconst (v := 0) hx hb dX2_isInName_140 (by decide) ?_
                  rw [hQ]
                  exact W.zret (v := 0) hx hb hr (jb_nz (Or.inl rfl)) (fun t ht hW => ⟨⟨0, (1, z_27, sv), rfl, ⟨(Or.inl rfl), by first | omega | (refine ⟨?_, ?_, ?_, ?_, ?_, ?_⟩ <;> (first | omega | rfl | assumption | decide | exact Or.inl rfl | exact Or.inr rfl | (simp only; omega)))⟩, hh_28.rt (M1 := [(r0, 4, 9, .int 1), (r0, 4, 8, .int z_27), (r0, 4, 11, .int sv)]) [1, 0, 2] rfl ht⟩, by rw [ht]; try exact hh_28.1.1, fun q h9 hq => by rw [ht]; try exact hh_28.1.2.1 q h9 hq⟩) hh_28.1.2.2 dX2_isInName_141
                · skip
                  have c_31' : a1.toInt ≤ 122 := jb_gt_n (rfl) ((by decide)) c_31
                  refine lv_iconst (v := 1) hx hb dX2_isInName_136 (by decide) ?_
                  refine lv_goto (tgt := 141) hx hb dX2_isInName_137 (by decide) ?_
                  rw [hQ]
                  exact W.zret (v := 1) hx hb hr (jb_nz (Or.inr rfl)) (fun t ht hW => ⟨⟨1, (1, z_27, sv), rfl, ⟨(Or.inr rfl), by first | omega | (refine ⟨?_, ?_, ?_, ?_, ?_, ?_⟩ <;> (first | omega | rfl | assumption | decide | exact Or.inl rfl | exact Or.inr rfl | (simp only; omega)))⟩, hh_28.rt (M1 := [(r0, 4, 9, .int 1), (r0, 4, 8, .int z_27), (r0, 4, 11, .int sv)]) [1, 0, 2] rfl ht⟩, by rw [ht]; try exact hh_28.1.1, fun q h9 hq => by rw [ht]; try exact hh_28.1.2.1 q h9 hq⟩) hh_28.1.2.2 dX2_isInName_141
    · skip
      have c_2' : a1.toInt ≥ 65 := jb_lt_n (rfl) ((by decide)) c_2
      refine lv_iload_n hx hb dX2_isInName_52 rfl (lv_at hl 1 rfl) ?_
      refine lv_bipush (v := 90) hx hb dX2_isInName_53 (by decide) ?_
      refine lv_icmp_gt (tgt := 65) hx hb dX2_isInName_55 (by decide) (fun c_32 => ?_) (fun c_32 => ?_)
      · skip
        have c_32' : a1.toInt > 90 := jb_gt (rfl) ((by decide)) c_32
        refine lv_iload_n hx hb dX2_isInName_65 rfl (lv_at hl 1 rfl) ?_
        refine lv_istore_n (lv' := [(2, .int a1), (0, .ref r0), (1, .int a1)]) hx hb dX2_isInName_66 rfl hl (by decide) rfl (fun ls hl => ?_)
        refine lv_aload_n hx hb dX2_isInName_67 rfl (lv_at hl 1 rfl) ?_
        refine lv_aload_n hx hb dX2_isInName_68 rfl (lv_at hl 1 rfl) ?_
        refine j7_read hx hb hown hK (C := RX2) (T := TX2) (N := 12) rfl hly_4_9 hlk_57 (hh.at 0 rfl) dX2_isInName_69 ?_
        refine lv_if_eq (tgt := 104) hx hb dX2_isInName_72 (by decide) (fun c_33 => ?_) (fun c_33 => ?_)
        · skip
          have c_33' : il.toInt = 0 := jb_eq (rfl) ((by decide)) c_33
          refine lv_iconst (v := 0) hx hb dX2_isInName_104 (by decide) ?_
          refine j7_put hx hb hown hK hh hB hAp hB4 (C := RX2) (T := TX2) (N := 12) rfl (by decide) hg_r0 (i := 9) (by decide) hly_4_9 rfl hlk_57 rfl (ty := .boolean) (v := .int 0) (by decide +kernel) (jb_nz (Or.inl rfl)) (jb_fz (Or.inl rfl)) (⟨_, rfl, (Or.inl rfl)⟩) rfl (L1 := [(r0, 4, 8, .int sg), (r0, 4, 11, .int sv)]) [1, 2] rfl rfl rfl dX2_isInName_105 (fun H_34 locs_34 hh_34 => ?_)
          clear hh
          refine lv_aload_n hx hb dX2_isInName_108 rfl (lv_at hl 1 rfl) ?_
          refine lv_dup hx hb dX2_isInName_109 rfl ?_
          refine j7_read hx hb hown hK (C := RX2) (T := TX2) (N := 12) rfl hly_4_8 hlk_54 (hh_34.at 1 rfl) dX2_isInName_110 ?_
          refine lv_iconst (v := 1) hx hb dX2_isInName_113 (by decide) ?_
          refine lv_iadd hx hb dX2_isInName_114 ?_
          refine lv_topi (fun z_35 ez_35 => ?_)
          first | have hz_35 : z_35.toInt = sg.toInt + 1 := by rw [ez_35]; exact jb_iadd2 (rfl) ((by decide)) (by omega) | have hz_35 := jb_rng z_35
          refine j7_put hx hb hown hK hh_34 hB hAp hB4 (C := RX2) (T := TX2) (N := 12) rfl (by decide) hg_r0 (i := 8) (by decide) hly_4_8 rfl hlk_54 rfl (ty := .int) (v := .int z_35) (by decide +kernel) rfl rfl (⟨_, rfl⟩) rfl (L1 := [(r0, 4, 9, .int 0), (r0, 4, 11, .int sv)]) [0, 2] rfl rfl rfl dX2_isInName_115 (fun H_36 locs_36 hh_36 => ?_)
          clear hh_34
          refine lv_iload_n hx hb dX2_isInName_118 rfl (lv_at hl 0 rfl) ?_
          refine lv_bipush (v := 45) hx hb dX2_isInName_119 (by decide) ?_
          refine lv_icmp_eq (tgt := 136) hx hb dX2_isInName_121 (by decide) (fun c_37 => ?_) (fun c_37 => ?_)
          · skip
            have c_37' : a1.toInt = 45 := jb_eq (rfl) ((by decide)) c_37
            refine lv_iconst (v := 1) hx hb dX2_isInName_136 (by decide) ?_
            refine lv_goto (tgt := 141) hx hb dX2_isInName_137 (by decide) ?_
            rw [hQ]
            exact W.zret (v := 1) hx hb hr (jb_nz (Or.inr rfl)) (fun t ht hW => ⟨⟨1, (0, z_35, sv), rfl, ⟨(Or.inr rfl), by first | omega | (refine ⟨?_, ?_, ?_, ?_, ?_, ?_⟩ <;> (first | omega | rfl | assumption | decide | exact Or.inl rfl | exact Or.inr rfl | (simp only; omega)))⟩, hh_36.rt (M1 := [(r0, 4, 9, .int 0), (r0, 4, 8, .int z_35), (r0, 4, 11, .int sv)]) [1, 0, 2] rfl ht⟩, by rw [ht]; try exact hh_36.1.1, fun q h9 hq => by rw [ht]; try exact hh_36.1.2.1 q h9 hq⟩) hh_36.1.2.2 dX2_isInName_141
          · skip
            have c_37' : a1.toInt ≠ 45 := jb_eq_n (rfl) ((by decide)) c_37
            refine lv_iload_n hx hb dX2_isInName_124 rfl (lv_at hl 0 rfl) ?_
            refine lv_bipush (v := 97) hx hb dX2_isInName_125 (by decide) ?_
            refine lv_icmp_lt (tgt := 140) hx hb dX2_isInName_127 (by decide) (fun c_38 => ?_) (fun c_38 => ?_)
            · skip
              have c_38' : a1.toInt < 97 := jb_lt (rfl) ((by decide)) c_38
              refine lv_iconst (v := 0) hx hb dX2_isInName_140 (by decide) ?_
              rw [hQ]
              exact W.zret (v := 0) hx hb hr (jb_nz (Or.inl rfl)) (fun t ht hW => ⟨⟨0, (0, z_35, sv), rfl, ⟨(Or.inl rfl), by first | omega | (refine ⟨?_, ?_, ?_, ?_, ?_, ?_⟩ <;> (first | omega | rfl | assumption | decide | exact Or.inl rfl | exact Or.inr rfl | (simp only; omega)))⟩, hh_36.rt (M1 := [(r0, 4, 9, .int 0), (r0, 4, 8, .int z_35), (r0, 4, 11, .int sv)]) [1, 0, 2] rfl ht⟩, by rw [ht]; try exact hh_36.1.1, fun q h9 hq => by rw [ht]; try exact hh_36.1.2.1 q h9 hq⟩) hh_36.1.2.2 dX2_isInName_141
            · skip
              have c_38' : a1.toInt ≥ 97 := jb_lt_n (rfl) ((by decide)) c_38
              refine lv_iload_n hx hb dX2_isInName_130 rfl (lv_at hl 0 rfl) ?_
              refine lv_bipush (v := 122) hx hb dX2_isInName_131 (by decide) ?_
              refine lv_icmp_gt (tgt := 140) hx hb dX2_isInName_133 (by decide) (fun c_39 => ?_) (fun c_39 => ?_)
              · skip
                have c_39' : a1.toInt > 122 := jb_gt (rfl) ((by decide)) c_39
                refine lv_iconst (v := 0) hx hb dX2_isInName_140 (by decide) ?_
                rw [hQ]
                exact W.zret (v := 0) hx hb hr (jb_nz (Or.inl rfl)) (fun t ht hW => ⟨⟨0, (0, z_35, sv), rfl, ⟨(Or.inl rfl), by first | omega | (refine ⟨?_, ?_, ?_, ?_, ?_, ?_⟩ <;> (first | omega | rfl | assumption | decide | exact Or.inl rfl | exact Or.inr rfl | (simp only; omega)))⟩, hh_36.rt (M1 := [(r0, 4, 9, .int 0), (r0, 4, 8, .int z_35), (r0, 4, 11, .int sv)]) [1, 0, 2] rfl ht⟩, by rw [ht]; try exact hh_36.1.1, fun q h9 hq => by rw [ht]; try exact hh_36.1.2.1 q h9 hq⟩) hh_36.1.2.2 dX2_isInName_141
              · skip
                have c_39' : a1.toInt ≤ 122 := jb_gt_n (rfl) ((by decide)) c_39
                refine lv_iconst (v := 1) hx hb dX2_isInName_136 (by decide) ?_
                refine lv_goto (tgt := 141) hx hb dX2_isInName_137 (by decide) ?_
                rw [hQ]
                exact W.zret (v := 1) hx hb hr (jb_nz (Or.inr rfl)) (fun t ht hW => ⟨⟨1, (0, z_35, sv), rfl, ⟨(Or.inr rfl), by first | omega | (refine ⟨?_, ?_, ?_, ?_, ?_, ?_⟩ <;> (first | omega | rfl | assumption | decide | exact Or.inl rfl | exact Or.inr rfl | (simp only; omega)))⟩, hh_36.rt (M1 := [(r0, 4, 9, .int 0), (r0, 4, 8, .int z_35), (r0, 4, 11, .int sv)]) [1, 0, 2] rfl ht⟩, by rw [ht]; try exact hh_36.1.1, fun q h9 hq => by rw [ht]; try exact hh_36.1.2.1 q h9 hq⟩) hh_36.1.2.2 dX2_isInName_141
        · skip
          have c_33' : il.toInt ≠ 0 := jb_eq_n (rfl) ((by decide)) c_33
          refine lv_aload_n hx hb dX2_isInName_75 rfl (lv_at hl 1 rfl) ?_
          refine j7_read hx hb hown hK (C := RX2) (T := TX2) (N := 12) rfl hly_4_8 hlk_54 (hh.at 1 rfl) dX2_isInName_76 ?_
          refine va_ldcS hx hb hown rstr60 dX2_isInName_79 ?_
          refine vp_callSi (W.runV (As := []) (rest := [.int sg, .ref r0]) ⟨hx, hb, hml, hown, hts⟩ (wJ0_length_8abf5 l dC dI ca base s.heap str60 14) (cwV 0 hts (jgV (jWr_18 _ (List.mem_of_getElem? (i := 11) rfl)) (jWr_5 _ (List.mem_of_getElem? (i := 13) rfl)) (jWr_5 _ (List.mem_of_getElem? (i := 14) rfl)) (jWr_5 _ (List.mem_of_getElem? (i := 15) rfl)) (jWr_5 _ (List.mem_of_getElem? (i := 16) rfl))) rfl rfl rfl (by decide +kernel) ⟨by rw [← hR]; exact Nat.le_of_ble_eq_true rfl, by rw [← hR]; exact Nat.le_of_ble_eq_true rfl⟩) ⟨fun a U g mk q => by obtain ⟨q0, q1, q2, qK, q9⟩ := q; exact ⟨q0, q1, (q2.moved (Vm.Alike.refl U.vm)), jG.calling g mk a qK, q9⟩, jStr_recv hstr60 hh.1, fun U hU hW => ⟨rfl, hU, (hstr60.moved hW.alike).kept hh.1.2.1, hG.step hW hU hh.1, by omega⟩⟩ rfl rfl hl.1 rfl (lv_room (Nat.le_of_ble_eq_true rfl)) dX2_isInName_81 ⟨Nat.zero_le _, Nat.zero_le _⟩) (fun r_40 hr_40 => ?_)
          refine lv_icmp_ge (tgt := 104) hx hb dX2_isInName_84 (by decide) (fun c_41 => ?_) (fun c_41 => ?_)
          · skip
            have c_41' : sg.toInt ≥ r_40.toInt := jb_ge (rfl) (rfl) c_41
            refine lv_iconst (v := 0) hx hb dX2_isInName_104 (by decide) ?_
            refine j7_put hx hb hown hK hh hB hAp hB4 (C := RX2) (T := TX2) (N := 12) rfl (by decide) hg_r0 (i := 9) (by decide) hly_4_9 rfl hlk_57 rfl (ty := .boolean) (v := .int 0) (by decide +kernel) (jb_nz (Or.inl rfl)) (jb_fz (Or.inl rfl)) (⟨_, rfl, (Or.inl rfl)⟩) rfl (L1 := [(r0, 4, 8, .int sg), (r0, 4, 11, .int sv)]) [1, 2] rfl rfl rfl dX2_isInName_105 (fun H_42 locs_42 hh_42 => ?_)
            clear hh
            refine lv_aload_n hx hb dX2_isInName_108 rfl (lv_at hl 1 rfl) ?_
            refine lv_dup hx hb dX2_isInName_109 rfl ?_
            refine j7_read hx hb hown hK (C := RX2) (T := TX2) (N := 12) rfl hly_4_8 hlk_54 (hh_42.at 1 rfl) dX2_isInName_110 ?_
            refine lv_iconst (v := 1) hx hb dX2_isInName_113 (by decide) ?_
            refine lv_iadd hx hb dX2_isInName_114 ?_
            refine lv_topi (fun z_43 ez_43 => ?_)
            first | have hz_43 : z_43.toInt = sg.toInt + 1 := by rw [ez_43]; exact jb_iadd2 (rfl) ((by decide)) (by omega) | have hz_43 := jb_rng z_43
            refine j7_put hx hb hown hK hh_42 hB hAp hB4 (C := RX2) (T := TX2) (N := 12) rfl (by decide) hg_r0 (i := 8) (by decide) hly_4_8 rfl hlk_54 rfl (ty := .int) (v := .int z_43) (by decide +kernel) rfl rfl (⟨_, rfl⟩) rfl (L1 := [(r0, 4, 9, .int 0), (r0, 4, 11, .int sv)]) [0, 2] rfl rfl rfl dX2_isInName_115 (fun H_44 locs_44 hh_44 => ?_)
            clear hh_42
            refine lv_iload_n hx hb dX2_isInName_118 rfl (lv_at hl 0 rfl) ?_
            refine lv_bipush (v := 45) hx hb dX2_isInName_119 (by decide) ?_
            refine lv_icmp_eq (tgt := 136) hx hb dX2_isInName_121 (by decide) (fun c_45 => ?_) (fun c_45 => ?_)
            · skip
              have c_45' : a1.toInt = 45 := jb_eq (rfl) ((by decide)) c_45
              refine lv_iconst (v := 1) hx hb dX2_isInName_136 (by decide) ?_
              refine lv_goto (tgt := 141) hx hb dX2_isInName_137 (by decide) ?_
              rw [hQ]
              exact W.zret (v := 1) hx hb hr (jb_nz (Or.inr rfl)) (fun t ht hW => ⟨⟨1, (0, z_43, sv), rfl, ⟨(Or.inr rfl), by first | omega | (refine ⟨?_, ?_, ?_, ?_, ?_, ?_⟩ <;> (first | omega | rfl | assumption | decide | exact Or.inl rfl | exact Or.inr rfl | (simp only; omega)))⟩, hh_44.rt (M1 := [(r0, 4, 9, .int 0), (r0, 4, 8, .int z_43), (r0, 4, 11, .int sv)]) [1, 0, 2] rfl ht⟩, by rw [ht]; try exact hh_44.1.1, fun q h9 hq => by rw [ht]; try exact hh_44.1.2.1 q h9 hq⟩) hh_44.1.2.2 dX2_isInName_141
            · skip
              have c_45' : a1.toInt ≠ 45 := jb_eq_n (rfl) ((by decide)) c_45
              refine lv_iload_n hx hb dX2_isInName_124 rfl (lv_at hl 0 rfl) ?_
              refine lv_bipush (v := 97) hx hb dX2_isInName_125 (by decide) ?_
              refine lv_icmp_lt (tgt := 140) hx hb dX2_isInName_127 (by decide) (fun c_46 => ?_) (fun c_46 => ?_)
              · skip
                have c_46' : a1.toInt < 97 := jb_lt (rfl) ((by decide)) c_46
                refine lv_iconst (v := 0) hx hb dX2_isInName_140 (by decide) ?_
                rw [hQ]
                exact W.zret (v := 0) hx hb hr (jb_nz (Or.inl rfl)) (fun t ht hW => ⟨⟨0, (0, z_43, sv), rfl, ⟨(Or.inl rfl), by first | omega | (refine ⟨?_, ?_, ?_, ?_, ?_, ?_⟩ <;> (first | omega | rfl | assumption | decide | exact Or.inl rfl | exact Or.inr rfl | (simp only; omega)))⟩, hh_44.rt (M1 := [(r0, 4, 9, .int 0), (r0, 4, 8, .int z_43), (r0, 4, 11, .int sv)]) [1, 0, 2] rfl ht⟩, by rw [ht]; try exact hh_44.1.1, fun q h9 hq => by rw [ht]; try exact hh_44.1.2.1 q h9 hq⟩) hh_44.1.2.2 dX2_isInName_141
              · skip
                have c_46' : a1.toInt ≥ 97 := jb_lt_n (rfl) ((by decide)) c_46
                refine lv_iload_n hx hb dX2_isInName_130 rfl (lv_at hl 0 rfl) ?_
                refine lv_bipush (v := 122) hx hb dX2_isInName_131 (by decide) ?_
                refine lv_icmp_gt (tgt := 140) hx hb dX2_isInName_133 (by decide) (fun c_47 => ?_) (fun c_47 => ?_)
                · skip
                  have c_47' : a1.toInt > 122 := jb_gt (rfl) ((by decide)) c_47
                  refine lv_iconst (v := 0) hx hb dX2_isInName_140 (by decide) ?_
                  rw [hQ]
                  exact W.zret (v := 0) hx hb hr (jb_nz (Or.inl rfl)) (fun t ht hW => ⟨⟨0, (0, z_43, sv), rfl, ⟨(Or.inl rfl), by first | omega | (refine ⟨?_, ?_, ?_, ?_, ?_, ?_⟩ <;> (first | omega | rfl | assumption | decide | exact Or.inl rfl | exact Or.inr rfl | (simp only; omega)))⟩, hh_44.rt (M1 := [(r0, 4, 9, .int 0), (r0, 4, 8, .int z_43), (r0, 4, 11, .int sv)]) [1, 0, 2] rfl ht⟩, by rw [ht]; try exact hh_44.1.1, fun q h9 hq => by rw [ht]; try exact hh_44.1.2.1 q h9 hq⟩) hh_44.1.2.2 dX2_isInName_141
                · skip
                  have c_47' : a1.toInt ≤ 122 := jb_gt_n (rfl) ((by decide)) c_47
                  refine lv_iconst (v := 1) hx hb dX2_isInName_136 (by decide) ?_
                  refine lv_goto (tgt := 141) hx hb dX2_isInName_137 (by decide) ?_
                  rw [hQ]
                  exact W.zret (v := 1) hx hb hr (jb_nz (Or.inr rfl)) (fun t ht hW => ⟨⟨1, (0, z_43, sv), rfl, ⟨(Or.inr rfl), by first | omega | (refine ⟨?_, ?_, ?_, ?_, ?_, ?_⟩ <;> (first | omega | rfl | assumption | decide | exact Or.inl rfl | exact Or.inr rfl | (simp only; omega)))⟩, hh_44.rt (M1 := [(r0, 4, 9, .int 0), (r0, 4, 8, .int z_43), (r0, 4, 11, .int sv)]) [1, 0, 2] rfl ht⟩, by rw [ht]; try exact hh_44.1.1, fun q h9 hq => by rw [ht]; try exact hh_44.1.2.1 q h9 hq⟩) hh_44.1.2.2 dX2_isInName_141
          · skip
            have c_41' : sg.toInt < r_40.toInt := jb_ge_n (rfl) (rfl) c_41
            refine va_ldcS hx hb hown rstr60 dX2_isInName_87 ?_
            refine lv_aload_n hx hb dX2_isInName_89 rfl (lv_at hl 1 rfl) ?_
            refine j7_read hx hb hown hK (C := RX2) (T := TX2) (N := 12) rfl hly_4_8 hlk_54 (hh.at 1 rfl) dX2_isInName_90 ?_
            refine vp_callSi (W.runV (As := [.int sg]) (rest := [.ref r0]) ⟨hx, hb, hml, hown, hts⟩ (wJ0_charAt_5068e l dC dI ca base s.heap str60 14 sg) (cwV 1 hts (jgV (jWr_18 _ (List.mem_of_getElem? (i := 12) rfl)) (jWr_6 _ (List.mem_of_getElem? (i := 1) rfl)) (jWr_6 _ (List.mem_of_getElem? (i := 2) rfl)) (jWr_5 _ (List.mem_of_getElem? (i := 15) rfl)) (jWr_6 _ (List.mem_of_getElem? (i := 3) rfl))) rfl rfl rfl (by decide +kernel) ⟨by rw [← hR]; exact Nat.le_of_ble_eq_true rfl, by rw [← hR]; exact Nat.le_of_ble_eq_true rfl⟩) ⟨fun a U g mk q => by obtain ⟨q0, q1, q2, qK, q9⟩ := q; exact ⟨q0, q1, (q2.moved (Vm.Alike.refl U.vm)), jG.calling g mk a qK, q9⟩, jStr_recv hstr60 hh.1, fun U hU hW => ⟨rfl, hU, (hstr60.moved hW.alike).kept hh.1.2.1, hG.step hW hU hh.1, ⟨by omega, by omega, by omega⟩⟩⟩ rfl rfl hl.1 rfl (lv_room (Nat.le_of_ble_eq_true rfl)) dX2_isInName_93 ⟨Nat.zero_le _, Nat.zero_le _⟩) (fun r_48 hr_48 => ?_)
            refine lv_iload_n hx hb dX2_isInName_96 rfl (lv_at hl 0 rfl) ?_
            refine lv_icmp_ne (tgt := 104) hx hb dX2_isInName_97 (by decide) (fun c_49 => ?_) (fun c_49 => ?_)
            · skip
              have c_49' : r_48.toInt ≠ a1.toInt := jb_ne (rfl) (rfl) c_49
              refine lv_iconst (v := 0) hx hb dX2_isInName_104 (by decide) ?_
              refine j7_put hx hb hown hK hh hB hAp hB4 (C := RX2) (T := TX2) (N := 12) rfl (by decide) hg_r0 (i := 9) (by decide) hly_4_9 rfl hlk_57 rfl (ty := .boolean) (v := .int 0) (by decide +kernel) (jb_nz (Or.inl rfl)) (jb_fz (Or.inl rfl)) (⟨_, rfl, (Or.inl rfl)⟩) rfl (L1 := [(r0, 4, 8, .int sg), (r0, 4, 11, .int sv)]) [1, 2] rfl rfl rfl dX2_isInName_105 (fun H_50 locs_50 hh_50 => ?_)
              clear hh
              refine lv_aload_n hx hb dX2_isInName_108 rfl (lv_at hl 1 rfl) ?_
              refine lv_dup hx hb dX2_isInName_109 rfl ?_
              refine j7_read hx hb hown hK (C := RX2) (T := TX2) (N := 12) rfl hly_4_8 hlk_54 (hh_50.at 1 rfl) dX2_isInName_110 ?_
              refine lv_iconst (v := 1) hx hb dX2_isInName_113 (by decide) ?_
              refine lv_iadd hx hb dX2_isInName_114 ?_
              refine lv_topi (fun z_51 ez_51 => ?_)
              first | have hz_51 : z_51.toInt = sg.toInt + 1 := by rw [ez_51]; exact jb_iadd2 (rfl) ((by decide)) (by omega) | have hz_51 := jb_rng z_51
              refine j7_put hx hb hown hK hh_50 hB hAp hB4 (C := RX2) (T := TX2) (N := 12) rfl (by decide) hg_r0 (i := 8) (by decide) hly_4_8 rfl hlk_54 rfl (ty := .int) (v := .int z_51) (by decide +kernel) rfl rfl (⟨_, rfl⟩) rfl (L1 := [(r0, 4, 9, .int 0), (r0, 4, 11, .int sv)]) [0, 2] rfl rfl rfl dX2_isInName_115 (fun H_52 locs_52 hh_52 => ?_)
              clear hh_50
              refine lv_iload_n hx hb dX2_isInName_118 rfl (lv_at hl 0 rfl) ?_
              refine lv_bipush (v := 45) hx hb dX2_isInName_119 (by decide) ?_
              refine lv_icmp_eq (tgt := 136) hx hb dX2_isInName_121 (by decide) (fun c_53 => ?_) (fun c_53 => ?_)
              · skip
                have c_53' : a1.toInt = 45 := jb_eq (rfl) ((by decide)) c_53
                refine lv_iconst (v := 1) hx hb dX2_isInName_136 (by decide) ?_
                refine lv_goto (tgt := 141) hx hb dX2_isInName_137 (by decide) ?_
                rw [hQ]
                exact W.zret (v := 1) hx hb hr (jb_nz (Or.inr rfl)) (fun t ht hW => ⟨⟨1, (0, z_51, sv), rfl, ⟨(Or.inr rfl), by first | omega | (refine ⟨?_, ?_, ?_, ?_, ?_, ?_⟩ <;> (first | omega | rfl | assumption | decide | exact Or.inl rfl | exact Or.inr rfl | (simp only; omega)))⟩, hh_52.rt (M1 := [(r0, 4, 9, .int 0), (r0, 4, 8, .int z_51), (r0, 4, 11, .int sv)]) [1, 0, 2] rfl ht⟩, by rw [ht]; try exact hh_52.1.1, fun q h9 hq => by rw [ht]; try exact hh_52.1.2.1 q h9 hq⟩) hh_52.1.2.2 dX2_isInName_141
              · skip
                have c_53' : a1.toInt ≠ 45 := jb_eq_n (rfl) ((by decide)) c_53
                refine lv_iload_n hx hb dX2_isInName_124 rfl (lv_at hl 0 rfl) ?_
                refine lv_bipush (v := 97) hx hb dX2_isInName_125 (by decide) ?_
                refine lv_icmp_lt (tgt := 140) hx hb dX2_isInName_127 (by decide) (fun c_54 => ?_) (fun c_54 => ?_)
                · skip
                  have c_54' : a1.toInt < 97 := jb_lt (rfl) ((by decide)) c_54
                  refine lv_iconst (v := 0) hx hb dX2_isInName_140 (by decide) ?_
                  rw [hQ]
                  exact W.zret (v := 0) hx hb hr (jb_nz (Or.inl rfl)) (fun t ht hW => ⟨⟨0, (0, z_51, sv), rfl, ⟨(Or.inl rfl), by first | omega | (refine ⟨?_, ?_, ?_, ?_, ?_, ?_⟩ <;> (first | omega | rfl | assumption | decide | exact Or.inl rfl | exact Or.inr rfl | (simp only; omega)))⟩, hh_52.rt (M1 := [(r0, 4, 9, .int 0), (r0, 4, 8, .int z_51), (r0, 4, 11, .int sv)]) [1, 0, 2] rfl ht⟩, by rw [ht]; try exact hh_52.1.1, fun q h9 hq => by rw [ht]; try exact hh_52.1.2.1 q h9 hq⟩) hh_52.1.2.2 dX2_isInName_141
                · skip
                  have c_54' : a1.toInt ≥ 97 := jb_lt_n (rfl) ((by decide)) c_54
                  refine lv_iload_n hx hb dX2_isInName_130 rfl (lv_at hl 0 rfl) ?_
                  refine lv_bipush (v := 122) hx hb dX2_isInName_131 (by decide) ?_
                  refine lv_icmp_gt (tgt := 140) hx hb dX2_isInName_133 (by decide) (fun c_55 => ?_) (fun c_55 => ?_)
                  · skip
                    have c_55' : a1.toInt > 122 := jb_gt (rfl) ((by decide)) c_55
                    refine lv_iconst (v := 0) hx hb dX2_isInName_140 (by decide) ?_
                    rw [hQ]
                    exact W.zret (v := 0) hx hb hr (jb_nz (Or.inl rfl)) (fun t ht hW => ⟨⟨0, (0, z_51, sv), rfl, ⟨(Or.inl rfl), by first | omega | (refine ⟨?_, ?_, ?_, ?_, ?_, ?_⟩ <;> (first | omega | rfl | assumption | decide | exact Or.inl rfl | exact Or.inr rfl | (simp only; omega)))⟩, hh_52.rt (M1 := [(r0, 4, 9, .int 0), (r0, 4, 8, .int z_51), (r0, 4, 11, .int sv)]) [1, 0, 2] rfl ht⟩, by rw [ht]; try exact hh_52.1.1, fun q h9 hq => by rw [ht]; try exact hh_52.1.2.1 q h9 hq⟩) hh_52.1.2.2 dX2_isInName_141
                  · skip
                    have c_55' : a1.toInt ≤ 122 := jb_gt_n (rfl) ((by decide)) c_55
                    refine lv_iconst (v := 1) hx hb dX2_isInName_136 (by decide) ?_
                    refine lv_goto (tgt := 141) hx hb dX2_isInName_137 (by decide) ?_
                    rw [hQ]
                    exact W.zret (v := 1) hx hb hr (jb_nz (Or.inr rfl)) (fun t ht hW => ⟨⟨1, (0, z_51, sv), rfl, ⟨(Or.inr rfl), by first | omega | (refine ⟨?_, ?_, ?_, ?_, ?_, ?_⟩ <;> (first | omega | rfl | assumption | decide | exact Or.inl rfl | exact Or.inr rfl | (simp only; omega)))⟩, hh_52.rt (M1 := [(r0, 4, 9, .int 0), (r0, 4, 8, .int z_51), (r0, 4, 11, .int sv)]) [1, 0, 2] rfl ht⟩, by rw [ht]; try exact hh_52.1.1, fun q h9 hq => by rw [ht]; try exact hh_52.1.2.1 q h9 hq⟩) hh_52.1.2.2 dX2_isInName_141
            · skip
              have c_49' : r_48.toInt = a1.toInt := jb_ne_n (rfl) (rfl) c_49
              refine lv_iconst (v := 1) hx hb dX2_isInName_100 (by decide) ?_
              refine lv_goto (tgt := 105) hx hb dX2_isInName_101 (by decide) ?_
              refine j7_put hx hb hown hK hh hB hAp hB4 (C := RX2) (T := TX2) (N := 12) rfl (by decide) hg_r0 (i := 9) (by decide) hly_4_9 rfl hlk_57 rfl (ty := .boolean) (v := .int 1) (by decide +kernel) (jb_nz (Or.inr rfl)) (jb_fz (Or.inr rfl)) (⟨_, rfl, (Or.inr rfl)⟩) rfl (L1 := [(r0, 4, 8, .int sg), (r0, 4, 11, .int sv)]) [1, 2] rfl rfl rfl dX2_isInName_105 (fun H_56 locs_56 hh_56 => ?_)
              clear hh
              refine lv_aload_n hx hb dX2_isInName_108 rfl (lv_at hl 1 rfl) ?_
              refine lv_dup hx hb dX2_isInName_109 rfl ?_
              refine j7_read hx hb hown hK (C := RX2) (T := TX2) (N := 12) rfl hly_4_8 hlk_54 (hh_56.at 1 rfl) dX2_isInName_110 ?_
              refine lv_iconst (v := 1) hx hb dX2_isInName_113 (by decide) ?_
              refine lv_iadd hx hb dX2_isInName_114 ?_
              refine lv_topi (fun z_57 ez_57 => ?_)
              first | have hz_57 : z_57.toInt = sg.toInt + 1 := by rw [ez_57]; exact jb_iadd2 (rfl) ((by decide)) (by omega) | have hz_57 := jb_rng z_57
              refine j7_put hx hb hown hK hh_56 hB hAp hB4 (C := RX2) (T := TX2) (N := 12) rfl (by decide) hg_r0 (i := 8) (by decide) hly_4_8 rfl hlk_54 rfl (ty := .int) (v := .int z_57) (by decide +kernel) rfl rfl (⟨_, rfl⟩) rfl (L1 := [(r0, 4, 9, .int 1), (r0, 4, 11, .int sv)]) [0, 2] rfl rfl rfl dX2_isInName_115 (fun H_58 locs_58 hh_58 => ?_)
              clear hh_56
              refine lv_iload_n hx hb dX2_isInName_118 rfl (lv_at hl 0 rfl) ?_
              refine lv_bipush (v := 45) hx hb dX2_isInName_119 (by decide) ?_
              refine lv_icmp_eq (tgt := 136) hx hb dX2_isInName_121 (by decide) (fun c_59 => ?_) (fun c_59 => ?_)
              · skip
                have c_59' : a1.toInt = 45 := jb_eq (rfl) ((by decide)) c_59
                refine lv_iconst (v := 1) hx hb dX2_isInName_136 (by decide) ?_
                refine lv_goto (tgt := 141) hx hb dX2_isInName_137 (by decide) ?_
                rw [hQ]
                exact W.zret (v := 1) hx hb hr (jb_nz (Or.inr rfl)) (fun t ht hW => ⟨⟨1, (1, z_57, sv), rfl, ⟨(Or.inr rfl), by first | omega | (refine ⟨?_, ?_, ?_, ?_, ?_, ?_⟩ <;> (first | omega | rfl | assumption | decide | exact Or.inl rfl | exact Or.inr rfl | (simp only; omega)))⟩, hh_58.rt (M1 := [(r0, 4, 9, .int 1), (r0, 4, 8, .int z_57), (r0, 4, 11, .int sv)]) [1, 0, 2] rfl ht⟩, by rw [ht]; try exact hh_58.1.1, fun q h9 hq => by rw [ht]; try exact hh_58.1.2.1 q h9 hq⟩) hh_58.1.2.2 dX2_isInName_141
              · skip
                have c_59' : a1.toInt ≠ 45 := jb_eq_n (rfl) ((by decide)) c_59
                refine lv_iload_n hx hb dX2_isInName_124 rfl (lv_at hl 0 rfl) ?_
                refine lv_bipush (v := 97) hx hb dX2_isInName_125 (by decide) ?_
                refine lv_icmp_lt (tgt := 140) hx hb dX2_isInName_127 (by decide) (fun c_60 => ?_) (fun c_60 => ?_)
                · skip
                  have c_60' : a1.toInt < 97 := jb_lt (rfl) ((by decide)) c_60
                  refine lv_iconst (v := 0) hx hb dX2_isInName_140 (by decide) ?_
                  rw [hQ]
                  exact W.zret (v := 0) hx hb hr (jb_nz (Or.inl rfl)) (fun t ht hW => ⟨⟨0, (1, z_57, sv), rfl, ⟨(Or.inl rfl), by first | omega | (refine ⟨?_, ?_, ?_, ?_, ?_, ?_⟩ <;> (first | omega | rfl | assumption | decide | exact Or.inl rfl | exact Or.inr rfl | (simp only; omega)))⟩, hh_58.rt (M1 := [(r0, 4, 9, .int 1), (r0, 4, 8, .int z_57), (r0, 4, 11, .int sv)]) [1, 0, 2] rfl ht⟩, by rw [ht]; try exact hh_58.1.1, fun q h9 hq => by rw [ht]; try exact hh_58.1.2.1 q h9 hq⟩) hh_58.1.2.2 dX2_isInName_141
                · skip
                  have c_60' : a1.toInt ≥ 97 := jb_lt_n (rfl) ((by decide)) c_60
                  refine lv_iload_n hx hb dX2_isInName_130 rfl (lv_at hl 0 rfl) ?_
                  refine lv_bipush (v := 122) hx hb dX2_isInName_131 (by decide) ?_
                  refine lv_icmp_gt (tgt := 140) hx hb dX2_isInName_133 (by decide) (fun c_61 => ?_) (fun c_61 => ?_)
                  · skip
                    have c_61' : a1.toInt > 122 := jb_gt (rfl) ((by decide)) c_61
                    refine lv_iconst (v := 0) hx hb dX2_isInName_140 (by decide) ?_
                    rw [hQ]
                    exact W.zret (v := 0) hx hb hr (jb_nz (Or.inl rfl)) (fun t ht hW => ⟨⟨0, (1, z_57, sv), rfl, ⟨(Or.inl rfl), by first | omega | (refine ⟨?_, ?_, ?_, ?_, ?_, ?_⟩ <;> (first | omega | rfl | assumption | decide | exact Or.inl rfl | exact Or.inr rfl | (simp only; omega)))⟩, hh_58.rt (M1 := [(r0, 4, 9, .int 1), (r0, 4, 8, .int z_57), (r0, 4, 11, .int sv)]) [1, 0, 2] rfl ht⟩, by rw [ht]; try exact hh_58.1.1, fun q h9 hq => by rw [ht]; try exact hh_58.1.2.1 q h9 hq⟩) hh_58.1.2.2 dX2_isInName_141
                  · skip
                    have c_61' : a1.toInt ≤ 122 := jb_gt_n (rfl) ((by decide)) c_61
                    refine lv_iconst (v := 1) hx hb dX2_isInName_136 (by decide) ?_
                    refine lv_goto (tgt := 141) hx hb dX2_isInName_137 (by decide) ?_
                    rw [hQ]
                    exact W.zret (v := 1) hx hb hr (jb_nz (Or.inr rfl)) (fun t ht hW => ⟨⟨1, (1, z_57, sv), rfl, ⟨(Or.inr rfl), by first | omega | (refine ⟨?_, ?_, ?_, ?_, ?_, ?_⟩ <;> (first | omega | rfl | assumption | decide | exact Or.inl rfl | exact Or.inr rfl | (simp only; omega)))⟩, hh_58.rt (M1 := [(r0, 4, 9, .int 1), (r0, 4, 8, .int z_57), (r0, 4, 11, .int sv)]) [1, 0, 2] rfl ht⟩, by rw [ht]; try exact hh_58.1.1, fun q h9 hq => by rw [ht]; try exact hh_58.1.2.1 q h9 hq⟩) hh_58.1.2.2 dX2_isInName_141
      · skip
        have c_32' : a1.toInt ≤ 90 := jb_gt_n (rfl) ((by decide)) c_32
        refine lv_iload_n hx hb dX2_isInName_58 rfl (lv_at hl 1 rfl) ?_
        refine lv_bipush (v := 32) hx hb dX2_isInName_59 (by decide) ?_
        refine lv_iadd hx hb dX2_isInName_61 ?_
        refine lv_topi (fun z_62 ez_62 => ?_)
        have hz_62 : z_62.toInt = a1.toInt + 32 := by rw [ez_62]; exact jb_iadd2 (rfl) ((by decide)) (by omega)
        refine lv_goto (tgt := 66) hx hb dX2_isInName_62 (by decide) ?_
        refine lv_istore_n (lv' := [(2, .int z_62), (0, .ref r0), (1, .int a1)]) hx hb dX2_isInName_66 rfl hl (by decide) rfl (fun ls hl => ?_)
        refine lv_aload_n hx hb dX2_isInName_67 rfl (lv_at hl 1 rfl) ?_
        refine lv_aload_n hx hb dX2_isInName_68 rfl (lv_at hl 1 rfl) ?_
        refine j7_read hx hb hown hK (C := RX2) (T := TX2) (N := 12) rfl hly_4_9 hlk_57 (hh.at 0 rfl) dX2_isInName_69 ?_
        refine lv_if_eq (tgt := 104) hx hb dX2_isInName_72 (by decide) (fun c_63 => ?_) (fun c_63 => ?_)
        · skip
          have c_63' : il.toInt = 0 := jb_eq (rfl) ((by decide)) c_63
          refine lv_iconst (v := 0) hx hb dX2_isInName_104 (by decide) ?_
          refine j7_put hx hb hown hK hh hB hAp hB4 (C := RX2) (T := TX2) (N := 12) rfl (by decide) hg_r0 (i := 9) (by decide) hly_4_9 rfl hlk_57 rfl (ty := .boolean) (v := .int 0) (by decide +kernel) (jb_nz (Or.inl rfl)) (jb_fz (Or.inl rfl)) (⟨_, rfl, (Or.inl rfl)⟩) rfl (L1 := [(r0, 4, 8, .int sg), (r0, 4, 11, .int sv)]) [1, 2] rfl rfl rfl dX2_isInName_105 (fun H_64 locs_64 hh_64 => ?_)
          clear hh
          refine lv_aload_n hx hb dX2_isInName_108 rfl (lv_at hl 1 rfl) ?_
          refine lv_dup hx hb dX2_isInName_109 rfl ?_
          refine j7_read hx hb hown hK (C := RX2) (T := TX2) (N := 12) rfl hly_4_8 hlk_54 (hh_64.at 1 rfl) dX2_isInName_110 ?_
          refine lv_iconst (v := 1) hx hb dX2_isInName_113 (by decide) ?_
          refine lv_iadd hx hb dX2_isInName_114 ?_
          refine lv_topi (fun z_65 ez_65 => ?_)
          first | have hz_65 : z_65.toInt = sg.toInt + 1 := by rw [ez_65]; exact jb_iadd2 (rfl) ((by decide)) (by omega) | have hz_65 := jb_rng z_65
          refine j7_put hx hb hown hK hh_64 hB hAp hB4 (C := RX2) (T := TX2) (N := 12) rfl (by decide) hg_r0 (i := 8) (by decide) hly_4_8 rfl hlk_54 rfl (ty := .int) (v := .int z_65) (by decide +kernel) rfl rfl (⟨_, rfl⟩) rfl (L1 := [(r0, 4, 9, .int 0), (r0, 4, 11, .int sv)]) [0, 2] rfl rfl rfl dX2_isInName_115 (fun H_66 locs_66 hh_66 => ?_)
          clear hh_64
          refine lv_iload_n hx hb dX2_isInName_118 rfl (lv_at hl 0 rfl) ?_
          refine lv_bipush (v := 45) hx hb dX2_isInName_119 (by decide) ?_
          refine lv_icmp_eq (tgt := 136) hx hb dX2_isInName_121 (by decide) (fun c_67 => ?_) (fun c_67 => ?_)
          · skip
            have c_67' : z_62.toInt = 45 := jb_eq (rfl) ((by decide)) c_67
            refine lv_iconst (v := 1) hx hb dX2_isInName_136 (by decide) ?_
            refine lv_goto (tgt := 141) hx hb dX2_isInName_137 (by decide) ?_
            rw [hQ]
            exact W.zret (v := 1) hx hb hr (jb_nz (Or.inr rfl)) (fun t ht hW => ⟨⟨1, (0, z_65, sv), rfl, ⟨(Or.inr rfl), by first | omega | (refine ⟨?_, ?_, ?_, ?_, ?_, ?_⟩ <;> (first | omega | rfl | assumption | decide | exact Or.inl rfl | exact Or.inr rfl | (simp only; omega)))⟩, hh_66.rt (M1 := [(r0, 4, 9, .int 0), (r0, 4, 8, .int z_65), (r0, 4, 11, .int sv)]) [1, 0, 2] rfl ht⟩, by rw [ht]; try exact hh_66.1.1, fun q h9 hq => by rw [ht]; try exact hh_66.1.2.1 q h9 hq⟩) hh_66.1.2.2 dX2_isInName_141
          · skip
            have c_67' : z_62.toInt ≠ 45 := jb_eq_n (rfl) ((by decide)) c_67
            refine lv_iload_n hx hb dX2_isInName_124 rfl (lv_at hl 0 rfl) ?_
            refine lv_bipush (v := 97) hx hb dX2_isInName_125 (by decide) ?_
            refine lv_icmp_lt (tgt := 140) hx hb dX2_isInName_127 (by decide) (fun c_68 => ?_) (fun c_68 => ?_)
            · skip
              have c_68' : z_62.toInt < 97 := jb_lt (rfl) ((by decide)) c_68
              refine lv_iconst (v := 0) hx hb dX2_isInName_140 (by decide) ?_
              rw [hQ]
              exact W.zret (v := 0) hx hb hr (jb_nz (Or.inl rfl)) (fun t ht hW => ⟨⟨0, (0, z_65, sv), rfl, ⟨(Or.inl rfl), by first | omega | (refine ⟨?_, ?_, ?_, ?_, ?_, ?_⟩ <;> (first | omega | rfl | assumption | decide | exact Or.inl rfl | exact Or.inr rfl | (simp only; omega)))⟩, hh_66.rt (M1 := [(r0, 4, 9, .int 0), (r0, 4, 8, .int z_65), (r0, 4, 11, .int sv)]) [1, 0, 2] rfl ht⟩, by rw [ht]; try exact hh_66.1.1, fun q h9 hq => by rw [ht]; try exact hh_66.1.2.1 q h9 hq⟩) hh_66.1.2.2 dX2_isInName_141
            · skip
              have c_68' : z_62.toInt ≥ 97 := jb_lt_n (rfl) ((by decide)) c_68
              refine lv_iload_n hx hb dX2_isInName_130 rfl (lv_at hl 0 rfl) ?_
              refine lv_bipush (v := 122) hx hb dX2_isInName_131 (by decide) ?_
              refine lv_icmp_gt (tgt := 140) hx hb dX2_isInName_133 (by decide) (fun c_69 => ?_) (fun c_69 => ?_)
              · skip
                have c_69' : z_62.toInt > 122 := jb_gt (rfl) ((by decide)) c_69
                refine lv_iconst (v := 0) hx hb dX2_isInName_140 (by decide) ?_
                rw [hQ]
                exact W.zret (v := 0) hx hb hr (jb_nz (Or.inl rfl)) (fun t ht hW => ⟨⟨0, (0, z_65, sv), rfl, ⟨(Or.inl rfl), by first | omega | (refine ⟨?_, ?_, ?_, ?_, ?_, ?_⟩ <;> (first | omega | rfl | assumption | decide | exact Or.inl rfl | exact Or.inr rfl | (simp only; omega)))⟩, hh_66.rt (M1 := [(r0, 4, 9, .int 0), (r0, 4, 8, .int z_65), (r0, 4, 11, .int sv)]) [1, 0, 2] rfl ht⟩, by rw [ht]; try exact hh_66.1.1, fun q h9 hq => by rw [ht]; try exact hh_66.1.2.1 q h9 hq⟩) hh_66.1.2.2 dX2_isInName_141
              · skip
                have c_69' : z_62.toInt ≤ 122 := jb_gt_n (rfl) ((by decide)) c_69
                refine lv_iconst (v := 1) hx hb dX2_isInName_136 (by decide) ?_
                refine lv_goto (tgt := 141) hx hb dX2_isInName_137 (by decide) ?_
                rw [hQ]
                exact W.zret (v := 1) hx hb hr (jb_nz (Or.inr rfl)) (fun t ht hW => ⟨⟨1, (0, z_65, sv), rfl, ⟨(Or.inr rfl), by first | omega | (refine ⟨?_, ?_, ?_, ?_, ?_, ?_⟩ <;> (first | omega | rfl | assumption | decide | exact Or.inl rfl | exact Or.inr rfl | (simp only; omega)))⟩, hh_66.rt (M1 := [(r0, 4, 9, .int 0), (r0, 4, 8, .int z_65), (r0, 4, 11, .int sv)]) [1, 0, 2] rfl ht⟩, by rw [ht]; try exact hh_66.1.1, fun q h9 hq => by rw [ht]; try exact hh_66.1.2.1 q h9 hq⟩) hh_66.1.2.2 dX2_isInName_141
        · skip
          have c_63' : il.toInt ≠ 0 := jb_eq_n (rfl) ((by decide)) c_63
          refine lv_aload_n hx hb dX2_isInName_75 rfl (lv_at hl 1 rfl) ?_
          refine j7_read hx hb hown hK (C := RX2) (T := TX2) (N := 12) rfl hly_4_8 hlk_54 (hh.at 1 rfl) dX2_isInName_76 ?_
          refine va_ldcS hx hb hown rstr60 dX2_isInName_79 ?_
          refine vp_callSi (W.runV (As := []) (rest := [.int sg, .ref r0]) ⟨hx, hb, hml, hown, hts⟩ (wJ0_length_8abf5 l dC dI ca base s.heap str60 14) (cwV 0 hts (jgV (jWr_18 _ (List.mem_of_getElem? (i := 11) rfl)) (jWr_5 _ (List.mem_of_getElem? (i := 13) rfl)) (jWr_5 _ (List.mem_of_getElem? (i := 14) rfl)) (jWr_5 _ (List.mem_of_getElem? (i := 15) rfl)) (jWr_5 _ (List.mem_of_getElem? (i := 16) rfl))) rfl rfl rfl (by decide +kernel) ⟨by rw [← hR]; exact Nat.le_of_ble_eq_true rfl, by rw [← hR]; exact Nat.le_of_ble_eq_true rfl⟩) ⟨fun a U g mk q => by obtain ⟨q0, q1, q2, qK, q9⟩ := q; exact ⟨q0, q1, (q2.moved (Vm.Alike.refl U.vm)), jG.calling g mk a qK, q9⟩, jStr_recv hstr60 hh.1, fun U hU hW => ⟨rfl, hU, (hstr60.moved hW.alike).kept hh.1.2.1, hG.step hW hU hh.1, by omega⟩⟩ rfl rfl hl.1 rfl (lv_room (Nat.le_of_ble_eq_true rfl)) dX2_isInName_81 ⟨Nat.zero_le _, Nat.zero_le _⟩) (fun r_70 hr_70 => ?_)
          refine lv_icmp_ge (tgt := 104) hx hb dX2_isInName_84 (by decide) (fun c_71 => ?_) (fun c_71 => ?_)
          · skip
            have c_71' : sg.toInt ≥ r_70.toInt := jb_ge (rfl) (rfl) c_71
            refine lv_iconst (v := 0) hx hb dX2_isInName_104 (by decide) ?_
            refine j7_put hx hb hown hK hh hB hAp hB4 (C := RX2) (T := TX2) (N := 12) rfl (by decide) hg_r0 (i := 9) (by decide) hly_4_9 rfl hlk_57 rfl (ty := .boolean) (v := .int 0) (by decide +kernel) (jb_nz (Or.inl rfl)) (jb_fz (Or.inl rfl)) (⟨_, rfl, (Or.inl rfl)⟩) rfl (L1 := [(r0, 4, 8, .int sg), (r0, 4, 11, .int sv)]) [1, 2] rfl rfl rfl dX2_isInName_105 (fun H_72 locs_72 hh_72 => ?_)
            clear hh
            refine lv_aload_n hx hb dX2_isInName_108 rfl (lv_at hl 1 rfl) ?_
            refine lv_dup hx hb dX2_isInName_109 rfl ?_
            refine j7_read hx hb hown hK (C := RX2) (T := TX2) (N := 12) rfl hly_4_8 hlk_54 (hh_72.at 1 rfl) dX2_isInName_110 ?_
            refine lv_iconst (v := 1) hx hb dX2_isInName_113 (by decide) ?_
            refine lv_iadd hx hb dX2_isInName_114 ?_
            refine lv_topi (fun z_73 ez_73 => ?_)
            first | have hz_73 : z_73.toInt = sg.toInt + 1 := by rw [ez_73]; exact jb_iadd2 (rfl) ((by decide)) (by omega) | have hz_73 := jb_rng z_73
            refine j7_put hx hb hown hK hh_72 hB hAp hB4 (C := RX2) (T := TX2) (N := 12) rfl (by decide) hg_r0 (i := 8) (by decide) hly_4_8 rfl hlk_54 rfl (ty := .int) (v := .int z_73) (by decide +kernel) rfl rfl (⟨_, rfl⟩) rfl (L1 := [(r0, 4, 9, .int 0), (r0, 4, 11, .int sv)]) [0, 2] rfl rfl rfl dX2_isInName_115 (fun H_74 locs_74 hh_74 => ?_)
            clear hh_72
            refine lv_iload_n hx hb dX2_isInName_118 rfl (lv_at hl 0 rfl) ?_
            refine lv_bipush (v := 45) hx hb dX2_isInName_119 (by decide) ?_
            refine lv_icmp_eq (tgt := 136) hx hb dX2_isInName_121 (by decide) (fun c_75 => ?_) (fun c_75 => ?_)
            · skip
              have c_75' : z_62.toInt = 45 := jb_eq (rfl) ((by decide)) c_75
              refine lv_iconst (v := 1) hx hb dX2_isInName_136 (by decide) ?_
              refine lv_goto (tgt := 141) hx hb dX2_isInName_137 (by decide) ?_
              rw [hQ]
              exact W.zret (v := 1) hx hb hr (jb_nz (Or.inr rfl)) (fun t ht hW => ⟨⟨1, (0, z_73, sv), rfl, ⟨(Or.inr rfl), by first | omega | (refine ⟨?_, ?_, ?_, ?_, ?_, ?_⟩ <;> (first | omega | rfl | assumption | decide | exact Or.inl rfl | exact Or.inr rfl | (simp only; omega)))⟩, hh_74.rt (M1 := [(r0, 4, 9, .int 0), (r0, 4, 8, .int z_73), (r0, 4, 11, .int sv)]) [1, 0, 2] rfl ht⟩, by rw [ht]; try exact hh_74.1.1, fun q h9 hq => by rw [ht]; try exact hh_74.1.2.1 q h9 hq⟩) hh_74.1.2.2 dX2_isInName_141
            · skip
              have c_75' : z_62.toInt ≠ 45 := jb_eq_n (rfl) ((by decide)) c_75
              refine lv_iload_n hx hb dX2_isInName_124 rfl (lv_at hl 0 rfl) ?_
              refine lv_bipush (v := 97) hx hb dX2_isInName_125 (by decide) ?_
              refine lv_icmp_lt (tgt := 140) hx hb dX2_isInName_127 (by decide) (fun c_76 => ?_) (fun c_76 => ?_)
              · skip
                have c_76' : z_62.toInt < 97 := jb_lt (rfl) ((by decide)) c_76
                refine lv_iconst (v := 0) hx hb dX2_isInName_140 (by decide) ?_
                rw [hQ]
                exact W.zret (v := 0) hx hb hr (jb_nz (Or.inl rfl)) (fun t ht hW => ⟨⟨0, (0, z_73, sv), rfl, ⟨(Or.inl rfl), by first | omega | (refine ⟨?_, ?_, ?_, ?_, ?_, ?_⟩ <;> (first | omega | rfl | assumption | decide | exact Or.inl rfl | exact Or.inr rfl | (simp only; omega)))⟩, hh_74.rt (M1 := [(r0, 4, 9, .int 0), (r0, 4, 8, .int z_73), (r0, 4, 11, .int sv)]) [1, 0, 2] rfl ht⟩, by rw [ht]; try exact hh_74.1.1, fun q h9 hq => by rw [ht]; try exact hh_74.1.2.1 q h9 hq⟩) hh_74.1.2.2 dX2_isInName_141
              · skip
                have c_76' : z_62.toInt ≥ 97 := jb_lt_n (rfl) ((by decide)) c_76
                refine lv_iload_n hx hb dX2_isInName_130 rfl (lv_at hl 0 rfl) ?_
                refine lv_bipush (v := 122) hx hb dX2_isInName_131 (by decide) ?_
                refine lv_icmp_gt (tgt := 140) hx hb dX2_isInName_133 (by decide) (fun c_77 => ?_) (fun c_77 => ?_)
                · skip
                  have c_77' : z_62.toInt > 122 := jb_gt (rfl) ((by decide)) c_77
                  refine lv_iconst (v := 0) hx hb dX2_isInName_140 (by decide) ?_
                  rw [hQ]
                  exact W.zret (v := 0) hx hb hr (jb_nz (Or.inl rfl)) (fun t ht hW => ⟨⟨0, (0, z_73, sv), rfl, ⟨(Or.inl rfl), by first | omega | (refine ⟨?_, ?_, ?_, ?_, ?_, ?_⟩ <;> (first | omega | rfl | assumption | decide | exact Or.inl rfl | exact Or.inr rfl | (simp only; omega)))⟩, hh_74.rt (M1 := [(r0, 4, 9, .int 0), (r0, 4, 8, .int z_73), (r0, 4, 11, .int sv)]) [1, 0, 2] rfl ht⟩, by rw [ht]; try exact hh_74.1.1, fun q h9 hq => by rw [ht]; try exact hh_74.1.2.1 q h9 hq⟩) hh_74.1.2.2 dX2_isInName_141
                · skip
                  have c_77' : z_62.toInt ≤ 122 := jb_gt_n (rfl) ((by decide)) c_77
                  refine lv_iconst (v := 1) hx hb dX2_isInName_136 (by decide) ?_
                  refine lv_goto (tgt := 141) hx hb dX2_isInName_137 (by decide) ?_
                  rw [hQ]
                  exact W.zret (v := 1) hx hb hr (jb_nz (Or.inr rfl)) (fun t ht hW => ⟨⟨1, (0, z_73, sv), rfl, ⟨(Or.inr rfl), by first | omega | (refine ⟨?_, ?_, ?_, ?_, ?_, ?_⟩ <;> (first | omega | rfl | assumption | decide | exact Or.inl rfl | exact Or.inr rfl | (simp only; omega)))⟩, hh_74.rt (M1 := [(r0, 4, 9, .int 0), (r0, 4, 8, .int z_73), (r0, 4, 11, .int sv)]) [1, 0, 2] rfl ht⟩, by rw [ht]; try exact hh_74.1.1, fun q h9 hq => by rw [ht]; try exact hh_74.1.2.1 q h9 hq⟩) hh_74.1.2.2 dX2_isInName_141
          · skip
            have c_71' : sg.toInt < r_70.toInt := jb_ge_n (rfl) (rfl) c_71
            refine va_ldcS hx hb hown rstr60 dX2_isInName_87 ?_
            refine lv_aload_n hx hb dX2_isInName_89 rfl (lv_at hl 1 rfl) ?_
            refine j7_read hx hb hown hK (C := RX2) (T := TX2) (N := 12) rfl hly_4_8 hlk_54 (hh.at 1 rfl) dX2_isInName_90 ?_
            refine vp_callSi (W.runV (As := [.int sg]) (rest := [.ref r0]) ⟨hx, hb, hml, hown, hts⟩ (wJ0_charAt_5068e l dC dI ca base s.heap str60 14 sg) (cwV 1 hts (jgV (jWr_18 _ (List.mem_of_getElem? (i := 12) rfl)) (jWr_6 _ (List.mem_of_getElem? (i := 1) rfl)) (jWr_6 _ (List.mem_of_getElem? (i := 2) rfl)) (jWr_5 _ (List.mem_of_getElem? (i := 15) rfl)) (jWr_6 _ (List.mem_of_getElem? (i := 3) rfl))) rfl rfl rfl (by decide +kernel) ⟨by rw [← hR]; exact Nat.le_of_ble_eq_true rfl, by rw [← hR]; exact Nat.le_of_ble_eq_true rfl⟩) ⟨fun a U g mk q => by obtain ⟨q0, q1, q2, qK, q9⟩ := q; exact ⟨q0, q1, (q2.moved (Vm.Alike.refl U.vm)), jG.calling g mk a qK, q9⟩, jStr_recv hstr60 hh.1, fun U hU hW => ⟨rfl, hU, (hstr60.moved hW.alike).kept hh.1.2.1, hG.step hW hU hh.1, ⟨by omega, by omega, by omega⟩⟩⟩ rfl rfl hl.1 rfl (lv_room (Nat.le_of_ble_eq_true rfl)) dX2_isInName_93 ⟨Nat.zero_le _, Nat.zero_le _⟩) (fun r_78 hr_78 => ?_)
            refine lv_iload_n hx hb dX2_isInName_96 rfl (lv_at hl 0 rfl) ?_
            refine lv_icmp_ne (tgt := 104) hx hb dX2_isInName_97 (by decide) (fun c_79 => ?_) (fun c_79 => ?_)
            · skip
              have c_79' : r_78.toInt ≠ z_62.toInt := jb_ne (rfl) (rfl) c_79
              refine lv_iconst (v := 0) hx hb dX2_isInName_104 (by decide) ?_
              refine j7_put hx hb hown hK hh hB hAp hB4 (C := RX2) (T := TX2) (N := 12) rfl (by decide) hg_r0 (i := 9) (by decide) hly_4_9 rfl hlk_57 rfl (ty := .boolean) (v := .int 0) (by decide +kernel) (jb_nz (Or.inl rfl)) (jb_fz (Or.inl rfl)) (⟨_, rfl, (Or.inl rfl)⟩) rfl (L1 := [(r0, 4, 8, .int sg), (r0, 4, 11, .int sv)]) [1, 2] rfl rfl rfl dX2_isInName_105 (fun H_80 locs_80 hh_80 => ?_)
              clear hh
              refine lv_aload_n hx hb dX2_isInName_108 rfl (lv_at hl 1 rfl) ?_
              refine lv_dup hx hb dX2_isInName_109 rfl ?_
              refine j7_read hx hb hown hK (C := RX2) (T := TX2) (N := 12) rfl hly_4_8 hlk_54 (hh_80.at 1 rfl) dX2_isInName_110 ?_
              refine lv_iconst (v := 1) hx hb dX2_isInName_113 (by decide) ?_
              refine lv_iadd hx hb dX2_isInName_114 ?_
              refine lv_topi (fun z_81 ez_81 => ?_)
              first | have hz_81 : z_81.toInt = sg.toInt + 1 := by rw [ez_81]; exact jb_iadd2 (rfl) ((by decide)) (by omega) | have hz_81 := jb_rng z_81
              refine j7_put hx hb hown hK hh_80 hB hAp hB4 (C := RX2) (T := TX2) (N := 12) rfl (by decide) hg_r0 (i := 8) (by decide) hly_4_8 rfl hlk_54 rfl (ty := .int) (v := .int z_81) (by decide +kernel) rfl rfl (⟨_, rfl⟩) rfl (L1 := [(r0, 4, 9, .int 0), (r0, 4, 11, .int sv)]) [0, 2] rfl rfl rfl dX2_isInName_115 (fun H_82 locs_82 hh_82 => ?_)
              clear hh_80
              refine lv_iload_n hx hb dX2_isInName_118 rfl (lv_at hl 0 rfl) ?_
              refine lv_bipush (v := 45) hx hb dX2_isInName_119 (by decide) ?_
              refine lv_icmp_eq (tgt := 136) hx hb dX2_isInName_121 (by decide) (fun c_83 => ?_) (fun c_83 => ?_)
              · skip
                have c_83' : z_62.toInt = 45 := jb_eq (rfl) ((by decide)) c_83
                refine lv_iconst (v := 1) hx hb dX2_isInName_136 (by decide) ?_
                refine lv_goto (tgt := 141) hx hb dX2_isInName_137 (by decide) ?_
                rw [hQ]
                exact W.zret (v := 1) hx hb hr (jb_nz (Or.inr rfl)) (fun t ht hW => ⟨⟨1, (0, z_81, sv), rfl, ⟨(Or.inr rfl), by first | omega | (refine ⟨?_, ?_, ?_, ?_, ?_, ?_⟩ <;> (first | omega | rfl | assumption | decide | exact Or.inl rfl | exact Or.inr rfl | (simp only; omega)))⟩, hh_82.rt (M1 := [(r0, 4, 9, .int 0), (r0, 4, 8, .int z_81), (r0, 4, 11, .int sv)]) [1, 0, 2] rfl ht⟩, by rw [ht]; try exact hh_82.1.1, fun q h9 hq => by rw [ht]; try exact hh_82.1.2.1 q h9 hq⟩) hh_82.1.2.2 dX2_isInName_141
              · skip
                have c_83' : z_62.toInt ≠ 45 := jb_eq_n (rfl) ((by decide)) c_83
                refine lv_iload_n hx hb dX2_isInName_124 rfl (lv_at hl 0 rfl) ?_
                refine lv_bipush (v := 97) hx hb dX2_isInName_125 (by decide) ?_
                refine lv_icmp_lt (tgt := 140) hx hb dX2_isInName_127 (by decide) (fun c_84 => ?_) (fun c_84 => ?_)
                · skip
                  have c_84' : z_62.toInt < 97 := jb_lt (rfl) ((by decide)) c_84
                  refine lv_iconst (v := 0) hx hb dX2_isInName_140 (by decide) ?_
                  rw [hQ]
                  exact W.zret (v := 0) hx hb hr (jb_nz (Or.inl rfl)) (fun t ht hW => ⟨⟨0, (0, z_81, sv), rfl, ⟨(Or.inl rfl), by first | omega | (refine ⟨?_, ?_, ?_, ?_, ?_, ?_⟩ <;> (first | omega | rfl | assumption | decide | exact Or.inl rfl | exact Or.inr rfl | (simp only; omega)))⟩, hh_82.rt (M1 := [(r0, 4, 9, .int 0), (r0, 4, 8, .int z_81), (r0, 4, 11, .int sv)]) [1, 0, 2] rfl ht⟩, by rw [ht]; try exact hh_82.1.1, fun q h9 hq => by rw [ht]; try exact hh_82.1.2.1 q h9 hq⟩) hh_82.1.2.2 dX2_isInName_141
                · skip
                  have c_84' : z_62.toInt ≥ 97 := jb_lt_n (rfl) ((by decide)) c_84
                  refine lv_iload_n hx hb dX2_isInName_130 rfl (lv_at hl 0 rfl) ?_
                  refine lv_bipush (v := 122) hx hb dX2_isInName_131 (by decide) ?_
                  refine lv_icmp_gt (tgt := 140) hx hb dX2_isInName_133 (by decide) (fun c_85 => ?_) (fun c_85 => ?_)
                  · skip
                    have c_85' : z_62.toInt > 122 := jb_gt (rfl) ((by decide)) c_85
                    refine lv_iconst (v := 0) hx hb dX2_isInName_140 (by decide) ?_
                    rw [hQ]
                    exact W.zret (v := 0) hx hb hr (jb_nz (Or.inl rfl)) (fun t ht hW => ⟨⟨0, (0, z_81, sv), rfl, ⟨(Or.inl rfl), by first | omega | (refine ⟨?_, ?_, ?_, ?_, ?_, ?_⟩ <;> (first | omega | rfl | assumption | decide | exact Or.inl rfl | exact Or.inr rfl | (simp only; omega)))⟩, hh_82.rt (M1 := [(r0, 4, 9, .int 0), (r0, 4, 8, .int z_81), (r0, 4, 11, .int sv)]) [1, 0, 2] rfl ht⟩, by rw [ht]; try exact hh_82.1.1, fun q h9 hq => by rw [ht]; try exact hh_82.1.2.1 q h9 hq⟩) hh_82.1.2.2 dX2_isInName_141
                  · skip
                    have c_85' : z_62.toInt ≤ 122 := jb_gt_n (rfl) ((by decide)) c_85
                    refine lv_iconst (v := 1) hx hb dX2_isInName_136 (by decide) ?_
                    refine lv_goto (tgt := 141) hx hb dX2_isInName_137 (by decide) ?_
                    rw [hQ]
                    exact W.zret (v := 1) hx hb hr (jb_nz (Or.inr rfl)) (fun t ht hW => ⟨⟨1, (0, z_81, sv), rfl, ⟨(Or.inr rfl), by first | omega | (refine ⟨?_, ?_, ?_, ?_, ?_, ?_⟩ <;> (first | omega | rfl | assumption | decide | exact Or.inl rfl | exact Or.inr rfl | (simp only; omega)))⟩, hh_82.rt (M1 := [(r0, 4, 9, .int 0), (r0, 4, 8, .int z_81), (r0, 4, 11, .int sv)]) [1, 0, 2] rfl ht⟩, by rw [ht]; try exact hh_82.1.1, fun q h9 hq => by rw [ht]; try exact hh_82.1.2.1 q h9 hq⟩) hh_82.1.2.2 dX2_isInName_141
            · skip
              have c_79' : r_78.toInt = z_62.toInt := jb_ne_n (rfl) (rfl) c_79
              refine lv_iconst (v := 1) hx hb dX2_isInName_100 (by decide) ?_
              refine lv_goto (tgt := 105) hx hb dX2_isInName_101 (by decide) ?_
              refine j7_put hx hb hown hK hh hB hAp hB4 (C := RX2) (T := TX2) (N := 12) rfl (by decide) hg_r0 (i := 9) (by decide) hly_4_9 rfl hlk_57 rfl (ty := .boolean) (v := .int 1) (by decide +kernel) (jb_nz (Or.inr rfl)) (jb_fz (Or.inr rfl)) (⟨_, rfl, (Or.inr rfl)⟩) rfl (L1 := [(r0, 4, 8, .int sg), (r0, 4, 11, .int sv)]) [1, 2] rfl rfl rfl dX2_isInName_105 (fun H_86 locs_86 hh_86 => ?_)
              clear hh
              refine lv_aload_n hx hb dX2_isInName_108 rfl (lv_at hl 1 rfl) ?_
              refine lv_dup hx hb dX2_isInName_109 rfl ?_
              refine j7_read hx hb hown hK (C := RX2) (T := TX2) (N := 12) rfl hly_4_8 hlk_54 (hh_86.at 1 rfl) dX2_isInName_110 ?_
              refine lv_iconst (v := 1) hx hb dX2_isInName_113 (by decide) ?_
              refine lv_iadd hx hb dX2_isInName_114 ?_
              refine lv_topi (fun z_87 ez_87 => ?_)
              first | have hz_87 : z_87.toInt = sg.toInt + 1 := by rw [ez_87]; exact jb_iadd2 (rfl) ((by decide)) (by omega) | have hz_87 := jb_rng z_87
              refine j7_put hx hb hown hK hh_86 hB hAp hB4 (C := RX2) (T := TX2) (N := 12) rfl (by decide) hg_r0 (i := 8) (by decide) hly_4_8 rfl hlk_54 rfl (ty := .int) (v := .int z_87) (by decide +kernel) rfl rfl (⟨_, rfl⟩) rfl (L1 := [(r0, 4, 9, .int 1), (r0, 4, 11, .int sv)]) [0, 2] rfl rfl rfl dX2_isInName_115 (fun H_88 locs_88 hh_88 => ?_)
              clear hh_86
              refine lv_iload_n hx hb dX2_isInName_118 rfl (lv_at hl 0 rfl) ?_
              refine lv_bipush (v := 45) hx hb dX2_isInName_119 (by decide) ?_
              refine lv_icmp_eq (tgt := 136) hx hb dX2_isInName_121 (by decide) (fun c_89 => ?_) (fun c_89 => ?_)
              · skip
                have c_89' : z_62.toInt = 45 := jb_eq (rfl) ((by decide)) c_89
                refine lv_iconst (v := 1) hx hb dX2_isInName_136 (by decide) ?_
                refine lv_goto (tgt := 141) hx hb dX2_isInName_137 (by decide) ?_
                rw [hQ]
                exact W.zret (v := 1) hx hb hr (jb_nz (Or.inr rfl)) (fun t ht hW => ⟨⟨1, (1, z_87, sv), rfl, ⟨(Or.inr rfl), by first | omega | (refine ⟨?_, ?_, ?_, ?_, ?_, ?_⟩ <;> (first | omega | rfl | assumption | decide | exact Or.inl rfl | exact Or.inr rfl | (simp only; omega)))⟩, hh_88.rt (M1 := [(r0, 4, 9, .int 1), (r0, 4, 8, .int z_87), (r0, 4, 11, .int sv)]) [1, 0, 2] rfl ht⟩, by rw [ht]; try exact hh_88.1.1, fun q h9 hq => by rw [ht]; try exact hh_88.1.2.1 q h9 hq⟩) hh_88.1.2.2 dX2_isInName_141
              · skip
                have c_89' : z_62.toInt ≠ 45 := jb_eq_n (rfl) ((by decide)) c_89
                refine lv_iload_n hx hb dX2_isInName_124 rfl (lv_at hl 0 rfl) ?_
                refine lv_bipush (v := 97) hx hb dX2_isInName_125 (by decide) ?_
                refine lv_icmp_lt (tgt := 140) hx hb dX2_isInName_127 (by decide) (fun c_90 => ?_) (fun c_90 => ?_)
                · skip
                  have c_90' : z_62.toInt < 97 := jb_lt (rfl) ((by decide)) c_90
                  refine lv_iconst (v := 0) hx hb dX2_isInName_140 (by decide) ?_
                  rw [hQ]
                  exact W.zret (v := 0) hx hb hr (jb_nz (Or.inl rfl)) (fun t ht hW => ⟨⟨0, (1, z_87, sv), rfl, ⟨(Or.inl rfl), by first | omega | (refine ⟨?_, ?_, ?_, ?_, ?_, ?_⟩ <;> (first | omega | rfl | assumption | decide | exact Or.inl rfl | exact Or.inr rfl | (simp only; omega)))⟩, hh_88.rt (M1 := [(r0, 4, 9, .int 1), (r0, 4, 8, .int z_87), (r0, 4, 11, .int sv)]) [1, 0, 2] rfl ht⟩, by rw [ht]; try exact hh_88.1.1, fun q h9 hq => by rw [ht]; try exact hh_88.1.2.1 q h9 hq⟩) hh_88.1.2.2 dX2_isInName_141
                · skip
                  have c_90' : z_62.toInt ≥ 97 := jb_lt_n (rfl) ((by decide)) c_90
                  refine lv_iload_n hx hb dX2_isInName_130 rfl (lv_at hl 0 rfl) ?_
                  refine lv_bipush (v := 122) hx hb dX2_isInName_131 (by decide) ?_
                  refine lv_icmp_gt (tgt := 140) hx hb dX2_isInName_133 (by decide) (fun c_91 => ?_) (fun c_91 => ?_)
                  · skip
                    have c_91' : z_62.toInt > 122 := jb_gt (rfl) ((by decide)) c_91
                    refine lv_iconst (v := 0) hx hb dX2_isInName_140 (by decide) ?_
                    rw [hQ]
                    exact W.zret (v := 0) hx hb hr (jb_nz (Or.inl rfl)) (fun t ht hW => ⟨⟨0, (1, z_87, sv), rfl, ⟨(Or.inl rfl), by first | omega | (refine ⟨?_, ?_, ?_, ?_, ?_, ?_⟩ <;> (first | omega | rfl | assumption | decide | exact Or.inl rfl | exact Or.inr rfl | (simp only; omega)))⟩, hh_88.rt (M1 := [(r0, 4, 9, .int 1), (r0, 4, 8, .int z_87), (r0, 4, 11, .int sv)]) [1, 0, 2] rfl ht⟩, by rw [ht]; try exact hh_88.1.1, fun q h9 hq => by rw [ht]; try exact hh_88.1.2.1 q h9 hq⟩) hh_88.1.2.2 dX2_isInName_141
                  · skip
                    have c_91' : z_62.toInt ≤ 122 := jb_gt_n (rfl) ((by decide)) c_91
                    refine lv_iconst (v := 1) hx hb dX2_isInName_136 (by decide) ?_
                    refine lv_goto (tgt := 141) hx hb dX2_isInName_137 (by decide) ?_
                    rw [hQ]
                    exact W.zret (v := 1) hx hb hr (jb_nz (Or.inr rfl)) (fun t ht hW => ⟨⟨1, (1, z_87, sv), rfl, ⟨(Or.inr rfl), by first | omega | (refine ⟨?_, ?_, ?_, ?_, ?_, ?_⟩ <;> (first | omega | rfl | assumption | decide | exact Or.inl rfl | exact Or.inr rfl | (simp only; omega)))⟩, hh_88.rt (M1 := [(r0, 4, 9, .int 1), (r0, 4, 8, .int z_87), (r0, 4, 11, .int sv)]) [1, 0, 2] rfl ht⟩, by rw [ht]; try exact hh_88.1.1, fun q h9 hq => by rw [ht]; try exact hh_88.1.2.1 q h9 hq⟩) hh_88.1.2.2 dX2_isInName_141
  · skip
    have c_1' : a1.toInt = 58 := jb_ne_n (rfl) ((by decide)) c_1
    refine lv_aload_n hx hb dX2_isInName_6 rfl (lv_at hl 0 rfl) ?_
    refine lv_aload_n hx hb dX2_isInName_7 rfl (lv_at hl 0 rfl) ?_
    refine j7_read hx hb hown hK (C := RX2) (T := TX2) (N := 12) rfl hly_4_9 hlk_57 (hh.at 0 rfl) dX2_isInName_8 ?_
    refine lv_if_eq (tgt := 30) hx hb dX2_isInName_11 (by decide) (fun c_92 => ?_) (fun c_92 => ?_)
    · skip
      have c_92' : il.toInt = 0 := jb_eq (rfl) ((by decide)) c_92
      refine lv_iconst (v := 2) hx hb dX2_isInName_30 (by decide) ?_
      refine j7_put hx hb hown hK hh hB hAp hB4 (C := RX2) (T := TX2) (N := 12) rfl (by decide) hg_r0 (i := 5) (by decide) hly_4_5 rfl hlk_15 rfl (ty := .int) (v := .int 2) (by decide +kernel) rfl rfl (⟨_, rfl⟩) rfl (L1 := [(r0, 4, 9, .int il), (r0, 4, 8, .int sg), (r0, 4, 11, .int sv)]) [0, 1, 2] rfl rfl rfl dX2_isInName_31 (fun H_93 locs_93 hh_93 => ?_)
      clear hh
      refine lv_aload_n hx hb dX2_isInName_34 rfl (lv_at hl 0 rfl) ?_
      refine lv_iconst (v := 0) hx hb dX2_isInName_35 (by decide) ?_
      refine j7_put hx hb hown hK hh_93 hB hAp hB4 (C := RX2) (T := TX2) (N := 12) rfl (by decide) hg_r0 (i := 10) (by decide) hly_4_10 rfl hlk_67 rfl (ty := .int) (v := .int 0) (by decide +kernel) rfl rfl (⟨_, rfl⟩) rfl (L1 := [(r0, 4, 5, .int 2), (r0, 4, 9, .int il), (r0, 4, 8, .int sg), (r0, 4, 11, .int sv)]) [0, 1, 2, 3] rfl rfl rfl dX2_isInName_36 (fun H_94 locs_94 hh_94 => ?_)
      clear hh_93
      refine lv_aload_n hx hb dX2_isInName_39 rfl (lv_at hl 0 rfl) ?_
      refine lv_iconst (v := 0) hx hb dX2_isInName_40 (by decide) ?_
      refine j7_put hx hb hown hK hh_94 hB hAp hB4 (C := RX2) (T := TX2) (N := 12) rfl (by decide) hg_r0 (i := 11) (by decide) hly_4_11 rfl hlk_70 rfl (ty := .int) (v := .int 0) (by decide +kernel) rfl rfl (⟨_, rfl, by omega, by omega⟩) rfl (L1 := [(r0, 4, 10, .int 0), (r0, 4, 5, .int 2), (r0, 4, 9, .int il), (r0, 4, 8, .int sg)]) [0, 1, 2, 3] rfl rfl rfl dX2_isInName_41 (fun H_95 locs_95 hh_95 => ?_)
      clear hh_94
      refine lv_iconst (v := 1) hx hb dX2_isInName_44 (by decide) ?_
      rw [hQ]
      exact W.zret (v := 1) hx hb hr (jb_nz (Or.inr rfl)) (fun t ht hW => ⟨⟨1, (il, sg, 0), rfl, ⟨(Or.inr rfl), by first | omega | (refine ⟨?_, ?_, ?_, ?_, ?_, ?_⟩ <;> (first | omega | rfl | assumption | decide | exact Or.inl rfl | exact Or.inr rfl | (simp only; omega)))⟩, hh_95.rt (M1 := [(r0, 4, 9, .int il), (r0, 4, 8, .int sg), (r0, 4, 11, .int 0)]) [3, 4, 0] rfl ht⟩, by rw [ht]; try exact hh_95.1.1, fun q h9 hq => by rw [ht]; try exact hh_95.1.2.1 q h9 hq⟩) hh_95.1.2.2 dX2_isInName_45
    · skip
      have c_92' : il.toInt ≠ 0 := jb_eq_n (rfl) ((by decide)) c_92
      refine lv_aload_n hx hb dX2_isInName_14 rfl (lv_at hl 0 rfl) ?_
      refine j7_read hx hb hown hK (C := RX2) (T := TX2) (N := 12) rfl hly_4_8 hlk_54 (hh.at 1 rfl) dX2_isInName_15 ?_
      refine va_ldcS hx hb hown rstr60 dX2_isInName_18 ?_
      refine vp_callSi (W.runV (As := []) (rest := [.int sg, .ref r0]) ⟨hx, hb, hml, hown, hts⟩ (wJ0_length_8abf5 l dC dI ca base s.heap str60 14) (cwV 0 hts (jgV (jWr_18 _ (List.mem_of_getElem? (i := 11) rfl)) (jWr_5 _ (List.mem_of_getElem? (i := 13) rfl)) (jWr_5 _ (List.mem_of_getElem? (i := 14) rfl)) (jWr_5 _ (List.mem_of_getElem? (i := 15) rfl)) (jWr_5 _ (List.mem_of_getElem? (i := 16) rfl))) rfl rfl rfl (by decide +kernel) ⟨by rw [← hR]; exact Nat.le_of_ble_eq_true rfl, by rw [← hR]; exact Nat.le_of_ble_eq_true rfl⟩) ⟨fun a U g mk q => by obtain ⟨q0, q1, q2, qK, q9⟩ := q; exact ⟨q0, q1, (q2.moved (Vm.Alike.refl U.vm)), jG.calling g mk a qK, q9⟩, jStr_recv hstr60 hh.1, fun U hU hW => ⟨rfl, hU, (hstr60.moved hW.alike).kept hh.1.2.1, hG.step hW hU hh.1, by omega⟩⟩ rfl rfl hl.1 rfl (lv_room (Nat.le_of_ble_eq_true rfl)) dX2_isInName_20 ⟨Nat.zero_le _, Nat.zero_le _⟩) (fun r_96 hr_96 => ?_)
      refine lv_icmp_ne (tgt := 30) hx hb dX2_isInName_23 (by decide) (fun c_97 => ?_) (fun c_97 => ?_)
      · skip
        have c_97' : sg.toInt ≠ r_96.toInt := jb_ne (rfl) (rfl) c_97
        refine lv_iconst (v := 2) hx hb dX2_isInName_30 (by decide) ?_
        refine j7_put hx hb hown hK hh hB hAp hB4 (C := RX2) (T := TX2) (N := 12) rfl (by decide) hg_r0 (i := 5) (by decide) hly_4_5 rfl hlk_15 rfl (ty := .int) (v := .int 2) (by decide +kernel) rfl rfl (⟨_, rfl⟩) rfl (L1 := [(r0, 4, 9, .int il), (r0, 4, 8, .int sg), (r0, 4, 11, .int sv)]) [0, 1, 2] rfl rfl rfl dX2_isInName_31 (fun H_98 locs_98 hh_98 => ?_)
        clear hh
        refine lv_aload_n hx hb dX2_isInName_34 rfl (lv_at hl 0 rfl) ?_
        refine lv_iconst (v := 0) hx hb dX2_isInName_35 (by decide) ?_
        refine j7_put hx hb hown hK hh_98 hB hAp hB4 (C := RX2) (T := TX2) (N := 12) rfl (by decide) hg_r0 (i := 10) (by decide) hly_4_10 rfl hlk_67 rfl (ty := .int) (v := .int 0) (by decide +kernel) rfl rfl (⟨_, rfl⟩) rfl (L1 := [(r0, 4, 5, .int 2), (r0, 4, 9, .int il), (r0, 4, 8, .int sg), (r0, 4, 11, .int sv)]) [0, 1, 2, 3] rfl rfl rfl dX2_isInName_36 (fun H_99 locs_99 hh_99 => ?_)
        clear hh_98
        refine lv_aload_n hx hb dX2_isInName_39 rfl (lv_at hl 0 rfl) ?_
        refine lv_iconst (v := 0) hx hb dX2_isInName_40 (by decide) ?_
        refine j7_put hx hb hown hK hh_99 hB hAp hB4 (C := RX2) (T := TX2) (N := 12) rfl (by decide) hg_r0 (i := 11) (by decide) hly_4_11 rfl hlk_70 rfl (ty := .int) (v := .int 0) (by decide +kernel) rfl rfl (⟨_, rfl, by omega, by omega⟩) rfl (L1 := [(r0, 4, 10, .int 0), (r0, 4, 5, .int 2), (r0, 4, 9, .int il), (r0, 4, 8, .int sg)]) [0, 1, 2, 3] rfl rfl rfl dX2_isInName_41 (fun H_100 locs_100 hh_100 => ?_)
        clear hh_99
        refine lv_iconst (v := 1) hx hb dX2_isInName_44 (by decide) ?_
        rw [hQ]
        exact W.zret (v := 1) hx hb hr (jb_nz (Or.inr rfl)) (fun t ht hW => ⟨⟨1, (il, sg, 0), rfl, ⟨(Or.inr rfl), by first | omega | (refine ⟨?_, ?_, ?_, ?_, ?_, ?_⟩ <;> (first | omega | rfl | assumption | decide | exact Or.inl rfl | exact Or.inr rfl | (simp only; omega)))⟩, hh_100.rt (M1 := [(r0, 4, 9, .int il), (r0, 4, 8, .int sg), (r0, 4, 11, .int 0)]) [3, 4, 0] rfl ht⟩, by rw [ht]; try exact hh_100.1.1, fun q h9 hq => by rw [ht]; try exact hh_100.1.2.1 q h9 hq⟩) hh_100.1.2.2 dX2_isInName_45
      · skip
        have c_97' : sg.toInt = r_96.toInt := jb_ne_n (rfl) (rfl) c_97
        refine lv_iconst (v := 3) hx hb dX2_isInName_26 (by decide) ?_
        refine lv_goto (tgt := 31) hx hb dX2_isInName_27 (by decide) ?_
        refine j7_put hx hb hown hK hh hB hAp hB4 (C := RX2) (T := TX2) (N := 12) rfl (by decide) hg_r0 (i := 5) (by decide) hly_4_5 rfl hlk_15 rfl (ty := .int) (v := .int 3) (by decide +kernel) rfl rfl (⟨_, rfl⟩) rfl (L1 := [(r0, 4, 9, .int il), (r0, 4, 8, .int sg), (r0, 4, 11, .int sv)]) [0, 1, 2] rfl rfl rfl dX2_isInName_31 (fun H_101 locs_101 hh_101 => ?_)
        clear hh
        refine lv_aload_n hx hb dX2_isInName_34 rfl (lv_at hl 0 rfl) ?_
        refine lv_iconst (v := 0) hx hb dX2_isInName_35 (by decide) ?_
        refine j7_put hx hb hown hK hh_101 hB hAp hB4 (C := RX2) (T := TX2) (N := 12) rfl (by decide) hg_r0 (i := 10) (by decide) hly_4_10 rfl hlk_67 rfl (ty := .int) (v := .int 0) (by decide +kernel) rfl rfl (⟨_, rfl⟩) rfl (L1 := [(r0, 4, 5, .int 3), (r0, 4, 9, .int il), (r0, 4, 8, .int sg), (r0, 4, 11, .int sv)]) [0, 1, 2, 3] rfl rfl rfl dX2_isInName_36 (fun H_102 locs_102 hh_102 => ?_)
        clear hh_101
        refine lv_aload_n hx hb dX2_isInName_39 rfl (lv_at hl 0 rfl) ?_
        refine lv_iconst (v := 0) hx hb dX2_isInName_40 (by decide) ?_
        refine j7_put hx hb hown hK hh_102 hB hAp hB4 (C := RX2) (T := TX2) (N := 12) rfl (by decide) hg_r0 (i := 11) (by decide) hly_4_11 rfl hlk_70 rfl (ty := .int) (v := .int 0) (by decide +kernel) rfl rfl (⟨_, rfl, by omega, by omega⟩) rfl (L1 := [(r0, 4, 10, .int 0), (r0, 4, 5, .int 3), (r0, 4, 9, .int il), (r0, 4, 8, .int sg)]) [0, 1, 2, 3] rfl rfl rfl dX2_isInName_41 (fun H_103 locs_103 hh_103 => ?_)
        clear hh_102
        refine lv_iconst (v := 1) hx hb dX2_isInName_44 (by decide) ?_
        rw [hQ]
        exact W.zret (v := 1) hx hb hr (jb_nz (Or.inr rfl)) (fun t ht hW => ⟨⟨1, (il, sg, 0), rfl, ⟨(Or.inr rfl), by first | omega | (refine ⟨?_, ?_, ?_, ?_, ?_, ?_⟩ <;> (first | omega | rfl | assumption | decide | exact Or.inl rfl | exact Or.inr rfl | (simp only; omega)))⟩, hh_103.rt (M1 := [(r0, 4, 9, .int il), (r0, 4, 8, .int sg), (r0, 4, 11, .int 0)]) [3, 4, 0] rfl ht⟩, by rw [ht]; try exact hh_103.1.1, fun q h9 hq => by rw [ht]; try exact hh_103.1.2.1 q h9 hq⟩) hh_103.1.2.2 dX2_isInName_45
set_option maxHeartbeats 4000000 in
set_option maxRecDepth 20000 in
theorem uX2_isLineBegin (l : Launch) (dC : Nat → ClassId) (dI : Nat → Nat → Nat) (ca : Nat → ClassId) (base : Nat) (B : jF) (hB : jBok B) (hAp : jAp (dC, dI)) (hB4 : ∀ n G a H, B 4 n G a H ↔ jOb (dC, dI) 4 12 (F4 n G) a H) (G0 : jT) (H0 : Heap) (r0 : Nat) (a1 : Int32) (il : Int32) (sg : Int32) (sv : Int32) : Met l yX2_isLineBegin (jw yX2_isLineBegin cX2_isLineBegin 2 (some .boolean)) ({ frames := 5, cells := 0, slots := 0, locals := 163 }) (va_Pc [.ref r0, .int a1] (fun U => U.heap = H0 ∧ jX B base G0 [] H0 ∧ jG dC dI ca base U ∧ G0 r0 = some (4, 0) ∧ jP (dC, dI) G0 H0 [(r0, 4, 9, .int il), (r0, 4, 8, .int sg), (r0, 4, 11, .int sv)] ∧ 0 ≤ sg.toInt + 4294967296 * (1 - il.toInt) ∧ sg.toInt ≤ 14 + 4294967296 * (1 - il.toInt) ∧ 0 ≤ il.toInt ∧ il.toInt ≤ 1 ∧ 0 ≤ sv.toInt ∧ sv.toInt ≤ 3000)) (va_Qi (S := Int32 × Int32 × Int32) (fun r u => (r = 0 ∨ r = 1) ∧ (0 ≤ u.2.1.toInt + 4294967296 * (1 - u.1.toInt) ∧ u.2.1.toInt ≤ 14 + 4294967296 * (1 - u.1.toInt) ∧ 0 ≤ u.1.toInt ∧ u.1.toInt ≤ 1 ∧ 0 ≤ u.2.2.toInt ∧ u.2.2.toInt ≤ 3000)) (fun u t => jRt (dC, dI) B base G0 EX2_isLineBegin H0 [(r0, 4, 9, .int u.1), (r0, 4, 8, .int u.2.1), (r0, 4, 11, .int u.2.2)] t.heap) (jA base)) 0 0 (jA base) := by
  refine Met.ofW (cc := cX2_isLineBegin) (maxL := 2) (ret := (some .boolean)) (by decide) rfl ?_
  intro p e s m args below meth c s₁ Bd hml hv
  obtain ⟨rfl, hH0, hX, hG, hg_r0, hP0, hp0, hp1, hp2, hp3, hp4, hp5⟩ := hv
  have hK := hG.1
  have hx := Bd.exec
  have hb := Bd.bytes
  have hr := Bd.returns
  have hts := atoms_spec (ws := (jw yX2_isLineBegin cX2_isLineBegin 2 (some .boolean))) Bd.pre
  have htw : ∀ w ∈ jWl, w.before _ s = true := fun w h => hts w (List.mem_cons_of_mem _ h)
  have hown : s.vm.findClass RX2 = some m.cls := findClass_of_methodNamed Bd.named
  have hlocks := Bd.notSynchronized
  obtain ⟨Q, hQ⟩ : ∃ Q, Q = MQ below (va_Qi (S := Int32 × Int32 × Int32) (fun r u => (r = 0 ∨ r = 1) ∧ (0 ≤ u.2.1.toInt + 4294967296 * (1 - u.1.toInt) ∧ u.2.1.toInt ≤ 14 + 4294967296 * (1 - u.1.toInt) ∧ 0 ≤ u.1.toInt ∧ u.1.toInt ≤ 1 ∧ 0 ≤ u.2.2.toInt ∧ u.2.2.toInt ≤ 3000)) (fun u t => jRt (dC, dI) B base G0 EX2_isLineBegin H0 [(r0, 4, 9, .int u.1), (r0, 4, 8, .int u.2.1), (r0, 4, 11, .int u.2.2)] t.heap) (jA base)) ([.ref r0, .int a1] : List Value).toArray s 0 0 (jA base) := ⟨_, rfl⟩
  rw [← hQ]
  have hl := lv_entry ([.ref r0, .int a1]) (n := 2) (Nat.le_of_ble_eq_true rfl)
  rw [lg_entry_eq]
  generalize (lg_sl ([.ref r0, .int a1]) ++ List.replicate (2 - (lg_sl ([.ref r0, .int a1])).length) Slot.unset).toArray = ls at hl ⊢
  have hl : lv_has ls 2 [(0, .ref r0), (1, .int a1)] := hl
  generalize hR : (headSpec (jw yX2_isLineBegin cX2_isLineBegin 2 (some .boolean)) ({ frames := 5, cells := 0, slots := 0, locals := 163 })).room = R
  subst hH0
  have hh : jSt (dC, dI) B base G0 G0 EX2_isLineBegin s.heap 0 0 [(r0, 4, 9, .int il), (r0, 4, 8, .int sg), (r0, 4, 11, .int sv)] [] [] s.heap [] := jSt.start hX hP0 jMc.nil jIs.nil
  clear hX hP0
  have hk0 : (0 : Int32).toInt = 0 := by decide
  have hk1 : (1 : Int32).toInt = 1 := by decide
  have hk5 : (5 : Int32).toInt = 5 := by decide
  have hk13 : (13 : Int32).toInt = 13 := by decide
  have hk58 : (58 : Int32).toInt = 58 := by decide
  have hly_4_5 := htw (u_lay RX2 TX2 5) (jWc_wsX20 _ (u_in_lay (by decide)))
  have hly_4_6 := htw (u_lay RX2 TX2 6) (jWc_wsX20 _ (u_in_lay (by decide)))
  have hly_4_8 := htw (u_lay RX2 TX2 8) (jWc_wsX20 _ (u_in_lay (by decide)))
  have hly_4_9 := htw (u_lay RX2 TX2 9) (jWc_wsX20 _ (u_in_lay (by decide)))
  have hlk_15 := (htw (.fieldLink RX2 15 "ProofServer$Frames" "place" "I") (jWr_3 _ (List.mem_of_getElem? (i := 15) rfl)))
  have hlk_19 := (htw (.fieldLink RX2 19 "ProofServer$Frames" "told" "I") (jWr_3 _ (List.mem_of_getElem? (i := 16) rfl)))
  have hlk_54 := (htw (.fieldLink RX2 54 "ProofServer$Frames" "signs" "I") (jWr_18 _ (List.mem_of_getElem? (i := 3) rfl)))
  have hlk_57 := (htw (.fieldLink RX2 57 "ProofServer$Frames" "isLengthName" "Z") (jWr_18 _ (List.mem_of_getElem? (i := 4) rfl)))
  have hrg_a1 := jb_rng a1
  refine lv_iload_n hx hb dX2_isLineBegin_0 rfl (lv_at hl 1 rfl) ?_
  refine lv_bipush (v := 13) hx hb dX2_isLineBegin_1 (by decide) ?_
  refine lv_icmp_ne (tgt := 24) hx hb dX2_isLineBegin_3 (by decide) (fun c_1 => ?_) (fun c_1 => ?_)
  · skip
    have c_1' : a1.toInt ≠ 13 := jb_ne (rfl) ((by decide)) c_1
    refine lv_aload_n hx hb dX2_isLineBegin_24 rfl (lv_at hl 0 rfl) ?_
    refine lv_iconst (v := 1) hx hb dX2_isLineBegin_25 (by decide) ?_
    refine j7_put hx hb hown hK hh hB hAp hB4 (C := RX2) (T := TX2) (N := 12) rfl (by decide) hg_r0 (i := 5) (by decide) hly_4_5 rfl hlk_15 rfl (ty := .int) (v := .int 1) (by decide +kernel) rfl rfl (⟨_, rfl⟩) rfl (L1 := [(r0, 4, 9, .int il), (r0, 4, 8, .int sg), (r0, 4, 11, .int sv)]) [0, 1, 2] rfl rfl rfl dX2_isLineBegin_26 (fun H_2 locs_2 hh_2 => ?_)
    clear hh
    refine lv_aload_n hx hb dX2_isLineBegin_29 rfl (lv_at hl 0 rfl) ?_
    refine lv_iconst (v := 0) hx hb dX2_isLineBegin_30 (by decide) ?_
    refine j7_put hx hb hown hK hh_2 hB hAp hB4 (C := RX2) (T := TX2) (N := 12) rfl (by decide) hg_r0 (i := 8) (by decide) hly_4_8 rfl hlk_54 rfl (ty := .int) (v := .int 0) (by decide +kernel) rfl rfl (⟨_, rfl⟩) rfl (L1 := [(r0, 4, 5, .int 1), (r0, 4, 9, .int il), (r0, 4, 11, .int sv)]) [0, 1, 3] rfl rfl rfl dX2_isLineBegin_31 (fun H_3 locs_3 hh_3 => ?_)
    clear hh_2
    refine lv_aload_n hx hb dX2_isLineBegin_34 rfl (lv_at hl 0 rfl) ?_
    refine lv_iconst (v := 1) hx hb dX2_isLineBegin_35 (by decide) ?_
    refine j7_put hx hb hown hK hh_3 hB hAp hB4 (C := RX2) (T := TX2) (N := 12) rfl (by decide) hg_r0 (i := 9) (by decide) hly_4_9 rfl hlk_57 rfl (ty := .boolean) (v := .int 1) (by decide +kernel) (jb_nz (Or.inr rfl)) (jb_fz (Or.inr rfl)) (⟨_, rfl, (Or.inr rfl)⟩) rfl (L1 := [(r0, 4, 8, .int 0), (r0, 4, 5, .int 1), (r0, 4, 11, .int sv)]) [0, 1, 3] rfl rfl rfl dX2_isLineBegin_36 (fun H_4 locs_4 hh_4 => ?_)
    clear hh_3
    refine lv_iload_n hx hb dX2_isLineBegin_39 rfl (lv_at hl 1 rfl) ?_
    refine lv_bipush (v := 58) hx hb dX2_isLineBegin_40 (by decide) ?_
    refine lv_icmp_eq (tgt := 57) hx hb dX2_isLineBegin_42 (by decide) (fun c_5 => ?_) (fun c_5 => ?_)
    · skip
      have c_5' : a1.toInt = 58 := jb_eq (rfl) ((by decide)) c_5
      refine lv_iconst (v := 0) hx hb dX2_isLineBegin_57 (by decide) ?_
      rw [hQ]
      exact W.zret (v := 0) hx hb hr (jb_nz (Or.inl rfl)) (fun t ht hW => ⟨⟨0, (1, 0, sv), rfl, ⟨(Or.inl rfl), by first | omega | (refine ⟨?_, ?_, ?_, ?_, ?_, ?_⟩ <;> (first | omega | rfl | assumption | decide | exact Or.inl rfl | exact Or.inr rfl | (simp only; omega)))⟩, hh_4.rt (M1 := [(r0, 4, 9, .int 1), (r0, 4, 8, .int 0), (r0, 4, 11, .int sv)]) [0, 1, 3] rfl ht⟩, by rw [ht]; try exact hh_4.1.1, fun q h9 hq => by rw [ht]; try exact hh_4.1.2.1 q h9 hq⟩) hh_4.1.2.2 dX2_isLineBegin_58
    · skip
      have c_5' : a1.toInt ≠ 58 := jb_eq_n (rfl) ((by decide)) c_5
      refine lv_aload_n hx hb dX2_isLineBegin_45 rfl (lv_at hl 0 rfl) ?_
      refine lv_iload_n hx hb dX2_isLineBegin_46 rfl (lv_at hl 1 rfl) ?_
      refine va_calli (A0 := jA base) (H0 := s.heap) (va_runV (As := [.int a1]) (rest := []) ⟨hx, hb, hml, hown, hts⟩ (uX2_isInName l dC dI ca base B hB hAp hB4 G0 H_4 r0 a1 1 0 sv) (cwV 1 hts (jgV (jWr_18 _ (List.mem_of_getElem? (i := 5) rfl)) (jWr_18 _ (List.mem_of_getElem? (i := 6) rfl)) (jWr_18 _ (List.mem_of_getElem? (i := 7) rfl)) (jWr_1 _ (List.mem_of_getElem? (i := 18) rfl)) (jWr_18 _ (List.mem_of_getElem? (i := 8) rfl))) rfl rfl rfl (by decide +kernel) ⟨by rw [← hR]; exact Nat.le_of_ble_eq_true rfl, by rw [← hR]; exact Nat.le_of_ble_eq_true rfl⟩) ⟨fun a U g mk q => by obtain ⟨q0, q1, q2, qK, q10, q11, q12⟩ := q; exact ⟨q0, q1, q2, jG.calling g mk a qK, q10, q11, q12⟩, hh_4.recv (C := RX2) (T := TX2) (N := 12) hB4 rfl (by decide) hg_r0 hK, fun U hU hW => ⟨rfl, hU, hh_4.2.1, hG.step hW hU hh_4.1, hg_r0, (hh_4.2.2.1.sub (L1 := [(r0, 4, 9, .int 1), (r0, 4, 8, .int 0), (r0, 4, 11, .int sv)]) [0, 1, 3] rfl), by first | omega | (refine ⟨?_, ?_, ?_, ?_, ?_, ?_⟩ <;> (first | omega | rfl | assumption | decide | exact Or.inl rfl | exact Or.inr rfl | (simp only; omega)))⟩⟩ rfl rfl hl.1 rfl (lv_room (Nat.le_of_ble_eq_true rfl)) dX2_isLineBegin_47 ⟨Nat.zero_le _, Nat.zero_le _⟩) hh_4.1 (fun q _ h => h) (fun q h => h) (fun r_7 u_6 t_6 H_6 locs_6 ht_6 hvm_6 hr_7 hb_6 hz_6 hk_6 hS_6 => ?_)
      obtain ⟨ql_6, qg_6, qv_6⟩ := u_6
      rw [ht_6] at hb_6
      obtain ⟨hb_61, hb_62, hb_63, hb_64, hb_65⟩ := hb_6
      have hh_6 : jSt (dC, dI) B base G0 G0 EX2_isLineBegin s.heap 0 0 [(r0, 4, 9, .int ql_6), (r0, 4, 8, .int qg_6), (r0, 4, 11, .int qv_6)] [] [] H_6 locs_6 := ((hh_4.call hb_61 hb_62 hb_63 hb_64 hS_6 rfl (L1 := []) [] rfl rfl (M1 := []) [] rfl rfl (I1 := []) [] rfl rfl).more hb_65)
      clear hh_4 ht_6 hvm_6 hz_6 hk_6 hS_6 hb_61 hb_62 hb_63 hb_64 hb_65
      try simp only at hr_7
      obtain ⟨hr_7b, hr_7p⟩ := hr_7
      obtain ⟨hr_7p_0, hr_7p_1, hr_7p_2, hr_7p_3, hr_7p_4, hr_7p_5⟩ := hr_7p
      have hr_7' := jb_01 hr_7b
      refine lv_if_eq (tgt := 57) hx hb dX2_isLineBegin_50 (by decide) (fun c_8 => ?_) (fun c_8 => ?_)
      · skip
        have c_8' : r_7.toInt = 0 := jb_eq (rfl) ((by decide)) c_8
        refine lv_iconst (v := 0) hx hb dX2_isLineBegin_57 (by decide) ?_
        rw [hQ]
        exact W.zret (v := 0) hx hb hr (jb_nz (Or.inl rfl)) (fun t ht hW => ⟨⟨0, (ql_6, qg_6, qv_6), rfl, ⟨(Or.inl rfl), by first | omega | (refine ⟨?_, ?_, ?_, ?_, ?_, ?_⟩ <;> (first | omega | rfl | assumption | decide | exact Or.inl rfl | exact Or.inr rfl | (simp only; omega)))⟩, hh_6.rt (M1 := [(r0, 4, 9, .int ql_6), (r0, 4, 8, .int qg_6), (r0, 4, 11, .int qv_6)]) [0, 1, 2] rfl ht⟩, by rw [ht]; try exact hh_6.1.1, fun q h9 hq => by rw [ht]; try exact hh_6.1.2.1 q h9 hq⟩) hh_6.1.2.2 dX2_isLineBegin_58
      · skip
        have c_8' : r_7.toInt ≠ 0 := jb_eq_n (rfl) ((by decide)) c_8
        refine lv_iconst (v := 1) hx hb dX2_isLineBegin_53 (by decide) ?_
        refine lv_goto (tgt := 58) hx hb dX2_isLineBegin_54 (by decide) ?_
        rw [hQ]
        exact W.zret (v := 1) hx hb hr (jb_nz (Or.inr rfl)) (fun t ht hW => ⟨⟨1, (ql_6, qg_6, qv_6), rfl, ⟨(Or.inr rfl), by first | omega | (refine ⟨?_, ?_, ?_, ?_, ?_, ?_⟩ <;> (first | omega | rfl | assumption | decide | exact Or.inl rfl | exact Or.inr rfl | (simp only; omega)))⟩, hh_6.rt (M1 := [(r0, 4, 9, .int ql_6), (r0, 4, 8, .int qg_6), (r0, 4, 11, .int qv_6)]) [0, 1, 2] rfl ht⟩, by rw [ht]; try exact hh_6.1.1, fun q h9 hq => by rw [ht]; try exact hh_6.1.2.1 q h9 hq⟩) hh_6.1.2.2 dX2_isLineBegin_58
  · skip
    have c_1' : a1.toInt = 13 := jb_ne_n (rfl) ((by decide)) c_1
    refine lv_aload_n hx hb dX2_isLineBegin_6 rfl (lv_at hl 0 rfl) ?_
    refine lv_iconst (v := 5) hx hb dX2_isLineBegin_7 (by decide) ?_
    refine j7_put hx hb hown hK hh hB hAp hB4 (C := RX2) (T := TX2) (N := 12) rfl (by decide) hg_r0 (i := 5) (by decide) hly_4_5 rfl hlk_15 rfl (ty := .int) (v := .int 5) (by decide +kernel) rfl rfl (⟨_, rfl⟩) rfl (L1 := [(r0, 4, 9, .int il), (r0, 4, 8, .int sg), (r0, 4, 11, .int sv)]) [0, 1, 2] rfl rfl rfl dX2_isLineBegin_8 (fun H_9 locs_9 hh_9 => ?_)
    clear hh
    refine lv_aload_n hx hb dX2_isLineBegin_11 rfl (lv_at hl 0 rfl) ?_
    obtain ⟨v_10, hv_10, hh_11⟩ := hh_9.pin (C := RX2) (T := TX2) (N := 12) hB4 rfl (by decide) hg_r0 (i := 6) (by decide) rfl
    clear hh_9
    obtain ⟨told_12, rfl, hlotold_12, hhitold_12⟩ := hv_10
    refine j7_read hx hb hown hK (C := RX2) (T := TX2) (N := 12) rfl hly_4_6 hlk_19 (hh_11.at 0 rfl) dX2_isLineBegin_12 ?_
    refine lv_if_lt (tgt := 22) hx hb dX2_isLineBegin_15 (by decide) (fun c_13 => ?_) (fun c_13 => ?_)
    · skip
      have c_13' : told_12.toInt < 0 := jb_lt (rfl) ((by decide)) c_13
      refine lv_iconst (v := 0) hx hb dX2_isLineBegin_22 (by decide) ?_
      rw [hQ]
      exact W.zret (v := 0) hx hb hr (jb_nz (Or.inl rfl)) (fun t ht hW => ⟨⟨0, (il, sg, sv), rfl, ⟨(Or.inl rfl), by first | omega | (refine ⟨?_, ?_, ?_, ?_, ?_, ?_⟩ <;> (first | omega | rfl | assumption | decide | exact Or.inl rfl | exact Or.inr rfl | (simp only; omega)))⟩, hh_11.rt (M1 := [(r0, 4, 9, .int il), (r0, 4, 8, .int sg), (r0, 4, 11, .int sv)]) [2, 3, 4] rfl ht⟩, by rw [ht]; try exact hh_11.1.1, fun q h9 hq => by rw [ht]; try exact hh_11.1.2.1 q h9 hq⟩) hh_11.1.2.2 dX2_isLineBegin_23
    · skip
      have c_13' : told_12.toInt ≥ 0 := jb_lt_n (rfl) ((by decide)) c_13
      refine lv_iconst (v := 1) hx hb dX2_isLineBegin_18 (by decide) ?_
      refine lv_goto (tgt := 23) hx hb dX2_isLineBegin_19 (by decide) ?_
      rw [hQ]
      exact W.zret (v := 1) hx hb hr (jb_nz (Or.inr rfl)) (fun t ht hW => ⟨⟨1, (il, sg, sv), rfl, ⟨(Or.inr rfl), by first | omega | (refine ⟨?_, ?_, ?_, ?_, ?_, ?_⟩ <;> (first | omega | rfl | assumption | decide | exact Or.inl rfl | exact Or.inr rfl | (simp only; omega)))⟩, hh_11.rt (M1 := [(r0, 4, 9, .int il), (r0, 4, 8, .int sg), (r0, 4, 11, .int sv)]) [2, 3, 4] rfl ht⟩, by rw [ht]; try exact hh_11.1.1, fun q h9 hq => by rw [ht]; try exact hh_11.1.2.1 q h9 hq⟩) hh_11.1.2.2 dX2_isLineBegin_23
set_option maxHeartbeats 4000000 in
set_option maxRecDepth 20000 in
theorem uX2_isHeader (l : Launch) (dC : Nat → ClassId) (dI : Nat → Nat → Nat) (ca : Nat → ClassId) (base : Nat) (B : jF) (hB : jBok B) (hAp : jAp (dC, dI)) (hB4 : ∀ n G a H, B 4 n G a H ↔ jOb (dC, dI) 4 12 (F4 n G) a H) (G0 : jT) (H0 : Heap) (r0 : Nat) (a1 : Int32) (il : Int32) (sg : Int32) (sv : Int32) : Met l yX2_isHeader (jw yX2_isHeader cX2_isHeader 2 (some .boolean)) ({ frames := 6, cells := 0, slots := 0, locals := 184 }) (va_Pc [.ref r0, .int a1] (fun U => U.heap = H0 ∧ jX B base G0 [] H0 ∧ jG dC dI ca base U ∧ G0 r0 = some (4, 0) ∧ jP (dC, dI) G0 H0 [(r0, 4, 9, .int il), (r0, 4, 8, .int sg), (r0, 4, 11, .int sv)] ∧ 0 ≤ sg.toInt + 4294967296 * (1 - il.toInt) ∧ sg.toInt ≤ 14 + 4294967296 * (1 - il.toInt) ∧ 0 ≤ il.toInt ∧ il.toInt ≤ 1 ∧ 0 ≤ sv.toInt ∧ sv.toInt ≤ 3000)) (va_Qi (S := Int32 × Int32 × Int32) (fun r u => (r = 0 ∨ r = 1) ∧ (0 ≤ u.2.1.toInt + 4294967296 * (1 - u.1.toInt) ∧ u.2.1.toInt ≤ 14 + 4294967296 * (1 - u.1.toInt) ∧ 0 ≤ u.1.toInt ∧ u.1.toInt ≤ 1 ∧ u.2.2.toInt ≤ 3000 + 100000 * (1 - r.toInt) ∧ 0 ≤ r.toInt ∧ r.toInt ≤ 1)) (fun u t => jRt (dC, dI) B base G0 EX2_isHeader H0 [(r0, 4, 9, .int u.1), (r0, 4, 8, .int u.2.1), (r0, 4, 11, .int u.2.2)] t.heap) (jA base)) 0 0 (jA base) := by
  refine Met.ofW (cc := cX2_isHeader) (maxL := 2) (ret := (some .boolean)) (by decide) rfl ?_
  intro p e s m args below meth c s₁ Bd hml hv
  obtain ⟨rfl, hH0, hX, hG, hg_r0, hP0, hp0, hp1, hp2, hp3, hp4, hp5⟩ := hv
  have hK := hG.1
  have hx := Bd.exec
  have hb := Bd.bytes
  have hr := Bd.returns
  have hts := atoms_spec (ws := (jw yX2_isHeader cX2_isHeader 2 (some .boolean))) Bd.pre
  have htw : ∀ w ∈ jWl, w.before _ s = true := fun w h => hts w (List.mem_cons_of_mem _ h)
  have hown : s.vm.findClass RX2 = some m.cls := findClass_of_methodNamed Bd.named
  have hlocks := Bd.notSynchronized
  obtain ⟨Q, hQ⟩ : ∃ Q, Q = MQ below (va_Qi (S := Int32 × Int32 × Int32) (fun r u => (r = 0 ∨ r = 1) ∧ (0 ≤ u.2.1.toInt + 4294967296 * (1 - u.1.toInt) ∧ u.2.1.toInt ≤ 14 + 4294967296 * (1 - u.1.toInt) ∧ 0 ≤ u.1.toInt ∧ u.1.toInt ≤ 1 ∧ u.2.2.toInt ≤ 3000 + 100000 * (1 - r.toInt) ∧ 0 ≤ r.toInt ∧ r.toInt ≤ 1)) (fun u t => jRt (dC, dI) B base G0 EX2_isHeader H0 [(r0, 4, 9, .int u.1), (r0, 4, 8, .int u.2.1), (r0, 4, 11, .int u.2.2)] t.heap) (jA base)) ([.ref r0, .int a1] : List Value).toArray s 0 0 (jA base) := ⟨_, rfl⟩
  rw [← hQ]
  have hl := lv_entry ([.ref r0, .int a1]) (n := 2) (Nat.le_of_ble_eq_true rfl)
  rw [lg_entry_eq]
  generalize (lg_sl ([.ref r0, .int a1]) ++ List.replicate (2 - (lg_sl ([.ref r0, .int a1])).length) Slot.unset).toArray = ls at hl ⊢
  have hl : lv_has ls 2 [(0, .ref r0), (1, .int a1)] := hl
  generalize hR : (headSpec (jw yX2_isHeader cX2_isHeader 2 (some .boolean)) ({ frames := 6, cells := 0, slots := 0, locals := 184 })).room = R
  subst hH0
  have hh : jSt (dC, dI) B base G0 G0 EX2_isHeader s.heap 0 0 [(r0, 4, 9, .int il), (r0, 4, 8, .int sg), (r0, 4, 11, .int sv)] [] [] s.heap [] := jSt.start hX hP0 jMc.nil jIs.nil
  clear hX hP0
  have hk0 : (0 : Int32).toInt = 0 := by decide
  have hk1 : (1 : Int32).toInt = 1 := by decide
  have hk6 : (6 : Int32).toInt = 6 := by decide
  have hk10 : (10 : Int32).toInt = 10 := by decide
  have hly_4_5 := htw (u_lay RX2 TX2 5) (jWc_wsX20 _ (u_in_lay (by decide)))
  have hlk_15 := (htw (.fieldLink RX2 15 "ProofServer$Frames" "place" "I") (jWr_3 _ (List.mem_of_getElem? (i := 15) rfl)))
  have hrg_a1 := jb_rng a1
  refine lv_aload_n hx hb dX2_isHeader_0 rfl (lv_at hl 0 rfl) ?_
  obtain ⟨v_1, hv_1, hh_2⟩ := hh.pin (C := RX2) (T := TX2) (N := 12) hB4 rfl (by decide) hg_r0 (i := 5) (by decide) rfl
  clear hh
  obtain ⟨place_3, rfl⟩ := hv_1
  refine j7_read hx hb hown hK (C := RX2) (T := TX2) (N := 12) rfl hly_4_5 hlk_15 (hh_2.at 0 rfl) dX2_isHeader_1 ?_
  rcases (by omega : (place_3.toInt < 0 ∨ 4 < place_3.toInt) ∨ place_3.toInt = 0 ∨ place_3.toInt = 1 ∨ place_3.toInt = 2 ∨ place_3.toInt = 3 ∨ place_3.toInt = 4) with c_4 | c_4 | c_4 | c_4 | c_4 | c_4
  · refine lv_tableOut (tgt := 81) hx hb dX2_isHeader_4 c_4 (by decide) ?_
    refine lv_aload_n hx hb dX2_isHeader_81 rfl (lv_at hl 0 rfl) ?_
    refine lv_bipush (v := 6) hx hb dX2_isHeader_82 (by decide) ?_
    refine j7_put hx hb hown hK hh_2 hB hAp hB4 (C := RX2) (T := TX2) (N := 12) rfl (by decide) hg_r0 (i := 5) (by decide) hly_4_5 rfl hlk_15 rfl (ty := .int) (v := .int 6) (by decide +kernel) rfl rfl (⟨_, rfl⟩) rfl (L1 := [(r0, 4, 9, .int il), (r0, 4, 8, .int sg), (r0, 4, 11, .int sv)]) [1, 2, 3] rfl rfl rfl dX2_isHeader_84 (fun H_5 locs_5 hh_5 => ?_)
    clear hh_2
    refine lv_iload_n hx hb dX2_isHeader_87 rfl (lv_at hl 1 rfl) ?_
    refine lv_bipush (v := 10) hx hb dX2_isHeader_88 (by decide) ?_
    refine lv_icmp_ne (tgt := 97) hx hb dX2_isHeader_90 (by decide) (fun c_6 => ?_) (fun c_6 => ?_)
    · skip
      have c_6' : a1.toInt ≠ 10 := jb_ne (rfl) ((by decide)) c_6
      refine lv_iconst (v := 0) hx hb dX2_isHeader_97 (by decide) ?_
      rw [hQ]
      exact W.zret (v := 0) hx hb hr (jb_nz (Or.inl rfl)) (fun t ht hW => ⟨⟨0, (il, sg, sv), rfl, ⟨(Or.inl rfl), by first | omega | (refine ⟨?_, ?_, ?_, ?_, ?_, ?_, ?_⟩ <;> (first | omega | rfl | assumption | decide | exact Or.inl rfl | exact Or.inr rfl | (simp only; omega)))⟩, hh_5.rt (M1 := [(r0, 4, 9, .int il), (r0, 4, 8, .int sg), (r0, 4, 11, .int sv)]) [1, 2, 3] rfl ht⟩, by rw [ht]; try exact hh_5.1.1, fun q h9 hq => by rw [ht]; try exact hh_5.1.2.1 q h9 hq⟩) hh_5.1.2.2 dX2_isHeader_98
    · skip
      have c_6' : a1.toInt = 10 := jb_ne_n (rfl) ((by decide)) c_6
      refine lv_iconst (v := 1) hx hb dX2_isHeader_93 (by decide) ?_
      refine lv_goto (tgt := 98) hx hb dX2_isHeader_94 (by decide) ?_
      rw [hQ]
      exact W.zret (v := 1) hx hb hr (jb_nz (Or.inr rfl)) (fun t ht hW => ⟨⟨1, (il, sg, sv), rfl, ⟨(Or.inr rfl), by first | omega | (refine ⟨?_, ?_, ?_, ?_, ?_, ?_, ?_⟩ <;> (first | omega | rfl | assumption | decide | exact Or.inl rfl | exact Or.inr rfl | (simp only; omega)))⟩, hh_5.rt (M1 := [(r0, 4, 9, .int il), (r0, 4, 8, .int sg), (r0, 4, 11, .int sv)]) [1, 2, 3] rfl ht⟩, by rw [ht]; try exact hh_5.1.1, fun q h9 hq => by rw [ht]; try exact hh_5.1.2.1 q h9 hq⟩) hh_5.1.2.2 dX2_isHeader_98
  · refine lv_tableIn (off := 36) (tgt := 40) hx hb dX2_isHeader_4 (by omega) (by omega) (by rw [c_4]; rfl) (by decide) ?_
    refine lv_aload_n hx hb dX2_isHeader_40 rfl (lv_at hl 0 rfl) ?_
    refine lv_iload_n hx hb dX2_isHeader_41 rfl (lv_at hl 1 rfl) ?_
    refine va_calli (A0 := jA base) (H0 := s.heap) (va_runV (As := [.int a1]) (rest := []) ⟨hx, hb, hml, hown, hts⟩ (uX2_isLineBegin l dC dI ca base B hB hAp hB4 G0 s.heap r0 a1 il sg sv) (cwV 1 hts (jgV (jWr_17 _ (List.mem_of_getElem? (i := 23) rfl)) (jWr_18 _ (List.mem_of_getElem? (i := 0) rfl)) (jWr_18 _ (List.mem_of_getElem? (i := 1) rfl)) (jWr_1 _ (List.mem_of_getElem? (i := 18) rfl)) (jWr_18 _ (List.mem_of_getElem? (i := 2) rfl))) rfl rfl rfl (by decide +kernel) ⟨by rw [← hR]; exact Nat.le_of_ble_eq_true rfl, by rw [← hR]; exact Nat.le_of_ble_eq_true rfl⟩) ⟨fun a U g mk q => by obtain ⟨q0, q1, q2, qK, q10, q11, q12⟩ := q; exact ⟨q0, q1, q2, jG.calling g mk a qK, q10, q11, q12⟩, hh_2.recv (C := RX2) (T := TX2) (N := 12) hB4 rfl (by decide) hg_r0 hK, fun U hU hW => ⟨rfl, hU, hh_2.2.1, hG.step hW hU hh_2.1, hg_r0, (hh_2.2.2.1.sub (L1 := [(r0, 4, 9, .int il), (r0, 4, 8, .int sg), (r0, 4, 11, .int sv)]) [1, 2, 3] rfl), by first | omega | (refine ⟨?_, ?_, ?_, ?_, ?_, ?_⟩ <;> (first | omega | rfl | assumption | decide | exact Or.inl rfl | exact Or.inr rfl | (simp only; omega)))⟩⟩ rfl rfl hl.1 rfl (lv_room (Nat.le_of_ble_eq_true rfl)) dX2_isHeader_42 ⟨Nat.zero_le _, Nat.zero_le _⟩) hh_2.1 (fun q _ h => h) (fun q h => h) (fun r_8 u_7 t_7 H_7 locs_7 ht_7 hvm_7 hr_8 hb_7 hz_7 hk_7 hS_7 => ?_)
    obtain ⟨ql_7, qg_7, qv_7⟩ := u_7
    rw [ht_7] at hb_7
    obtain ⟨hb_71, hb_72, hb_73, hb_74, hb_75⟩ := hb_7
    have hh_7 : jSt (dC, dI) B base G0 G0 EX2_isHeader s.heap 0 0 [(r0, 4, 9, .int ql_7), (r0, 4, 8, .int qg_7), (r0, 4, 11, .int qv_7)] [] [] H_7 locs_7 := ((hh_2.call hb_71 hb_72 hb_73 hb_74 hS_7 rfl (L1 := []) [] rfl rfl (M1 := []) [] rfl rfl (I1 := []) [] rfl rfl).more hb_75)
    clear hh_2 ht_7 hvm_7 hz_7 hk_7 hS_7 hb_71 hb_72 hb_73 hb_74 hb_75
    try simp only at hr_8
    obtain ⟨hr_8b, hr_8p⟩ := hr_8
    obtain ⟨hr_8p_0, hr_8p_1, hr_8p_2, hr_8p_3, hr_8p_4, hr_8p_5⟩ := hr_8p
    have hr_8' := jb_01 hr_8b
    rw [hQ]
    exact W.zret (v := r_8) hx hb hr (jb_nz (hr_8b)) (fun t ht hW => ⟨⟨r_8, (ql_7, qg_7, qv_7), rfl, ⟨(hr_8b), by first | omega | (refine ⟨?_, ?_, ?_, ?_, ?_, ?_, ?_⟩ <;> (first | omega | rfl | assumption | decide | exact Or.inl rfl | exact Or.inr rfl | (simp only; omega)))⟩, hh_7.rt (M1 := [(r0, 4, 9, .int ql_7), (r0, 4, 8, .int qg_7), (r0, 4, 11, .int qv_7)]) [0, 1, 2] rfl ht⟩, by rw [ht]; try exact hh_7.1.1, fun q h9 hq => by rw [ht]; try exact hh_7.1.2.1 q h9 hq⟩) hh_7.1.2.2 dX2_isHeader_45
  · refine lv_tableIn (off := 42) (tgt := 46) hx hb dX2_isHeader_4 (by omega) (by omega) (by rw [c_4]; rfl) (by decide) ?_
    refine lv_aload_n hx hb dX2_isHeader_46 rfl (lv_at hl 0 rfl) ?_
    refine lv_iload_n hx hb dX2_isHeader_47 rfl (lv_at hl 1 rfl) ?_
    refine va_calli (A0 := jA base) (H0 := s.heap) (va_runV (As := [.int a1]) (rest := []) ⟨hx, hb, hml, hown, hts⟩ (uX2_isInName l dC dI ca base B hB hAp hB4 G0 s.heap r0 a1 il sg sv) (cwV 1 hts (jgV (jWr_18 _ (List.mem_of_getElem? (i := 5) rfl)) (jWr_18 _ (List.mem_of_getElem? (i := 6) rfl)) (jWr_18 _ (List.mem_of_getElem? (i := 7) rfl)) (jWr_1 _ (List.mem_of_getElem? (i := 18) rfl)) (jWr_18 _ (List.mem_of_getElem? (i := 8) rfl))) rfl rfl rfl (by decide +kernel) ⟨by rw [← hR]; exact Nat.le_of_ble_eq_true rfl, by rw [← hR]; exact Nat.le_of_ble_eq_true rfl⟩) ⟨fun a U g mk q => by obtain ⟨q0, q1, q2, qK, q10, q11, q12⟩ := q; exact ⟨q0, q1, q2, jG.calling g mk a qK, q10, q11, q12⟩, hh_2.recv (C := RX2) (T := TX2) (N := 12) hB4 rfl (by decide) hg_r0 hK, fun U hU hW => ⟨rfl, hU, hh_2.2.1, hG.step hW hU hh_2.1, hg_r0, (hh_2.2.2.1.sub (L1 := [(r0, 4, 9, .int il), (r0, 4, 8, .int sg), (r0, 4, 11, .int sv)]) [1, 2, 3] rfl), by first | omega | (refine ⟨?_, ?_, ?_, ?_, ?_, ?_⟩ <;> (first | omega | rfl | assumption | decide | exact Or.inl rfl | exact Or.inr rfl | (simp only; omega)))⟩⟩ rfl rfl hl.1 rfl (lv_room (Nat.le_of_ble_eq_true rfl)) dX2_isHeader_48 ⟨Nat.zero_le _, Nat.zero_le _⟩) hh_2.1 (fun q _ h => h) (fun q h => h) (fun r_10 u_9 t_9 H_9 locs_9 ht_9 hvm_9 hr_10 hb_9 hz_9 hk_9 hS_9 => ?_)
    obtain ⟨ql_9, qg_9, qv_9⟩ := u_9
    rw [ht_9] at hb_9
    obtain ⟨hb_91, hb_92, hb_93, hb_94, hb_95⟩ := hb_9
    have hh_9 : jSt (dC, dI) B base G0 G0 EX2_isHeader s.heap 0 0 [(r0, 4, 9, .int ql_9), (r0, 4, 8, .int qg_9), (r0, 4, 11, .int qv_9)] [] [] H_9 locs_9 := ((hh_2.call hb_91 hb_92 hb_93 hb_94 hS_9 rfl (L1 := []) [] rfl rfl (M1 := []) [] rfl rfl (I1 := []) [] rfl rfl).more hb_95)
    clear hh_2 ht_9 hvm_9 hz_9 hk_9 hS_9 hb_91 hb_92 hb_93 hb_94 hb_95
    try simp only at hr_10
    obtain ⟨hr_10b, hr_10p⟩ := hr_10
    obtain ⟨hr_10p_0, hr_10p_1, hr_10p_2, hr_10p_3, hr_10p_4, hr_10p_5⟩ := hr_10p
    have hr_10' := jb_01 hr_10b
    rw [hQ]
    exact W.zret (v := r_10) hx hb hr (jb_nz (hr_10b)) (fun t ht hW => ⟨⟨r_10, (ql_9, qg_9, qv_9), rfl, ⟨(hr_10b), by first | omega | (refine ⟨?_, ?_, ?_, ?_, ?_, ?_, ?_⟩ <;> (first | omega | rfl | assumption | decide | exact Or.inl rfl | exact Or.inr rfl | (simp only; omega)))⟩, hh_9.rt (M1 := [(r0, 4, 9, .int ql_9), (r0, 4, 8, .int qg_9), (r0, 4, 11, .int qv_9)]) [0, 1, 2] rfl ht⟩, by rw [ht]; try exact hh_9.1.1, fun q h9 hq => by rw [ht]; try exact hh_9.1.2.1 q h9 hq⟩) hh_9.1.2.2 dX2_isHeader_51
  · refine lv_tableIn (off := 48) (tgt := 52) hx hb dX2_isHeader_4 (by omega) (by omega) (by rw [c_4]; rfl) (by decide) ?_
    refine lv_aload_n hx hb dX2_isHeader_52 rfl (lv_at hl 0 rfl) ?_
    refine lv_iload_n hx hb dX2_isHeader_53 rfl (lv_at hl 1 rfl) ?_
    refine va_calli (A0 := jA base) (H0 := s.heap) (va_runV (As := [.int a1]) (rest := []) ⟨hx, hb, hml, hown, hts⟩ (uX2_isInValue l dC dI ca base B hB hAp hB4 G0 s.heap r0 a1) (cwV 1 hts (jgV (jWr_18 _ (List.mem_of_getElem? (i := 13) rfl)) (jWr_18 _ (List.mem_of_getElem? (i := 14) rfl)) (jWr_18 _ (List.mem_of_getElem? (i := 15) rfl)) (jWr_1 _ (List.mem_of_getElem? (i := 18) rfl)) (jWr_18 _ (List.mem_of_getElem? (i := 16) rfl))) rfl rfl rfl (by decide +kernel) ⟨by rw [← hR]; exact Nat.le_of_ble_eq_true rfl, by rw [← hR]; exact Nat.le_of_ble_eq_true rfl⟩) ⟨fun a U g mk q => by obtain ⟨q0, q1, q2, qK, q10, q11, q12⟩ := q; exact ⟨q0, q1, q2, jG.calling g mk a qK, q10, q11, q12⟩, hh_2.recv (C := RX2) (T := TX2) (N := 12) hB4 rfl (by decide) hg_r0 hK, fun U hU hW => ⟨rfl, hU, hh_2.2.1, hG.step hW hU hh_2.1, hg_r0, jP.nil, trivial⟩⟩ rfl rfl hl.1 rfl (lv_room (Nat.le_of_ble_eq_true rfl)) dX2_isHeader_54 ⟨Nat.zero_le _, Nat.zero_le _⟩) hh_2.1 (fun q _ h => h) (fun q h => h) (fun r_12 u_11 t_11 H_11 locs_11 ht_11 hvm_11 hr_12 hb_11 hz_11 hk_11 hS_11 => ?_)
    rw [ht_11] at hb_11
    obtain ⟨hb_111, hb_112, hb_113, hb_114, hb_115⟩ := hb_11
    have hh_11 : jSt (dC, dI) B base G0 G0 EX2_isHeader s.heap 0 0 [(r0, 4, 9, .int il), (r0, 4, 8, .int sg), (r0, 4, 11, .int sv)] [] [] H_11 locs_11 := ((hh_2.call hb_111 hb_112 hb_113 hb_114 hS_11 rfl (L1 := [(r0, 4, 9, .int il), (r0, 4, 8, .int sg), (r0, 4, 11, .int sv)]) [1, 2, 3] rfl rfl (M1 := []) [] rfl rfl (I1 := []) [] rfl rfl).more hb_115)
    clear hh_2 ht_11 hvm_11 hz_11 hk_11 hS_11 hb_111 hb_112 hb_113 hb_114 hb_115
    obtain ⟨hr_12b, hr_12p⟩ := hr_12
    have hr_12' := jb_01 hr_12b
    rw [hQ]
    exact W.zret (v := r_12) hx hb hr (jb_nz (hr_12b)) (fun t ht hW => ⟨⟨r_12, (il, sg, sv), rfl, ⟨(hr_12b), by first | omega | (refine ⟨?_, ?_, ?_, ?_, ?_, ?_, ?_⟩ <;> (first | omega | rfl | assumption | decide | exact Or.inl rfl | exact Or.inr rfl | (simp only; omega)))⟩, hh_11.rt (M1 := [(r0, 4, 9, .int il), (r0, 4, 8, .int sg), (r0, 4, 11, .int sv)]) [0, 1, 2] rfl ht⟩, by rw [ht]; try exact hh_11.1.1, fun q h9 hq => by rw [ht]; try exact hh_11.1.2.1 q h9 hq⟩) hh_11.1.2.2 dX2_isHeader_57
  · refine lv_tableIn (off := 54) (tgt := 58) hx hb dX2_isHeader_4 (by omega) (by omega) (by rw [c_4]; rfl) (by decide) ?_
    refine lv_aload_n hx hb dX2_isHeader_58 rfl (lv_at hl 0 rfl) ?_
    refine lv_iload_n hx hb dX2_isHeader_59 rfl (lv_at hl 1 rfl) ?_
    refine va_calli (A0 := jA base) (H0 := s.heap) (va_runV (As := [.int a1]) (rest := []) ⟨hx, hb, hml, hown, hts⟩ (uX2_isInLength l dC dI ca base B hB hAp hB4 G0 s.heap r0 a1 sv) (cwV 1 hts (jgV (jWr_18 _ (List.mem_of_getElem? (i := 17) rfl)) (jWr_18 _ (List.mem_of_getElem? (i := 18) rfl)) (jWr_18 _ (List.mem_of_getElem? (i := 19) rfl)) (jWr_1 _ (List.mem_of_getElem? (i := 18) rfl)) (jWr_18 _ (List.mem_of_getElem? (i := 20) rfl))) rfl rfl rfl (by decide +kernel) ⟨by rw [← hR]; exact Nat.le_of_ble_eq_true rfl, by rw [← hR]; exact Nat.le_of_ble_eq_true rfl⟩) ⟨fun a U g mk q => by obtain ⟨q0, q1, q2, qK, q10, q11, q12⟩ := q; exact ⟨q0, q1, q2, jG.calling g mk a qK, q10, q11, q12⟩, hh_2.recv (C := RX2) (T := TX2) (N := 12) hB4 rfl (by decide) hg_r0 hK, fun U hU hW => ⟨rfl, hU, hh_2.2.1, hG.step hW hU hh_2.1, hg_r0, (hh_2.2.2.1.sub (L1 := [(r0, 4, 11, .int sv)]) [3] rfl), by first | omega | (refine ⟨?_, ?_⟩ <;> (first | omega | rfl | assumption | decide | exact Or.inl rfl | exact Or.inr rfl | (simp only; omega)))⟩⟩ rfl rfl hl.1 rfl (lv_room (Nat.le_of_ble_eq_true rfl)) dX2_isHeader_60 ⟨Nat.zero_le _, Nat.zero_le _⟩) hh_2.1 (fun q _ h => h) (fun q h => h) (fun r_14 u_13 t_13 H_13 locs_13 ht_13 hvm_13 hr_14 hb_13 hz_13 hk_13 hS_13 => ?_)
    obtain ⟨qv_13, rfl⟩ : ∃ z, z = u_13 := ⟨_, rfl⟩
    rw [ht_13] at hb_13
    obtain ⟨hb_131, hb_132, hb_133, hb_134, hb_135⟩ := hb_13
    have hh_13 : jSt (dC, dI) B base G0 G0 EX2_isHeader s.heap 0 0 [(r0, 4, 11, .int qv_13), (r0, 4, 9, .int il), (r0, 4, 8, .int sg)] [] [] H_13 locs_13 := ((hh_2.call hb_131 hb_132 hb_133 hb_134 hS_13 rfl (L1 := [(r0, 4, 9, .int il), (r0, 4, 8, .int sg)]) [1, 2] rfl rfl (M1 := []) [] rfl rfl (I1 := []) [] rfl rfl).more hb_135)
    clear hh_2 ht_13 hvm_13 hz_13 hk_13 hS_13 hb_131 hb_132 hb_133 hb_134 hb_135
    obtain ⟨hr_14b, hr_14p⟩ := hr_14
    obtain ⟨hr_14p_0, hr_14p_1, hr_14p_2⟩ := hr_14p
    have hr_14' := jb_01 hr_14b
    rw [hQ]
    exact W.zret (v := r_14) hx hb hr (jb_nz (hr_14b)) (fun t ht hW => ⟨⟨r_14, (il, sg, qv_13), rfl, ⟨(hr_14b), by first | omega | (refine ⟨?_, ?_, ?_, ?_, ?_, ?_, ?_⟩ <;> (first | omega | rfl | assumption | decide | exact Or.inl rfl | exact Or.inr rfl | (simp only; omega)))⟩, hh_13.rt (M1 := [(r0, 4, 9, .int il), (r0, 4, 8, .int sg), (r0, 4, 11, .int qv_13)]) [1, 2, 0] rfl ht⟩, by rw [ht]; try exact hh_13.1.1, fun q h9 hq => by rw [ht]; try exact hh_13.1.2.1 q h9 hq⟩) hh_13.1.2.2 dX2_isHeader_63
  · refine lv_tableIn (off := 60) (tgt := 64) hx hb dX2_isHeader_4 (by omega) (by omega) (by rw [c_4]; rfl) (by decide) ?_
    refine lv_aload_n hx hb dX2_isHeader_64 rfl (lv_at hl 0 rfl) ?_
    refine lv_iconst (v := 0) hx hb dX2_isHeader_65 (by decide) ?_
    refine j7_put hx hb hown hK hh_2 hB hAp hB4 (C := RX2) (T := TX2) (N := 12) rfl (by decide) hg_r0 (i := 5) (by decide) hly_4_5 rfl hlk_15 rfl (ty := .int) (v := .int 0) (by decide +kernel) rfl rfl (⟨_, rfl⟩) rfl (L1 := [(r0, 4, 9, .int il), (r0, 4, 8, .int sg), (r0, 4, 11, .int sv)]) [1, 2, 3] rfl rfl rfl dX2_isHeader_66 (fun H_15 locs_15 hh_15 => ?_)
    clear hh_2
    refine lv_iload_n hx hb dX2_isHeader_69 rfl (lv_at hl 1 rfl) ?_
    refine lv_bipush (v := 10) hx hb dX2_isHeader_70 (by decide) ?_
    refine lv_icmp_ne (tgt := 79) hx hb dX2_isHeader_72 (by decide) (fun c_16 => ?_) (fun c_16 => ?_)
    · skip
      have c_16' : a1.toInt ≠ 10 := jb_ne (rfl) ((by decide)) c_16
      refine lv_iconst (v := 0) hx hb dX2_isHeader_79 (by decide) ?_
      rw [hQ]
      exact W.zret (v := 0) hx hb hr (jb_nz (Or.inl rfl)) (fun t ht hW => ⟨⟨0, (il, sg, sv), rfl, ⟨(Or.inl rfl), by first | omega | (refine ⟨?_, ?_, ?_, ?_, ?_, ?_, ?_⟩ <;> (first | omega | rfl | assumption | decide | exact Or.inl rfl | exact Or.inr rfl | (simp only; omega)))⟩, hh_15.rt (M1 := [(r0, 4, 9, .int il), (r0, 4, 8, .int sg), (r0, 4, 11, .int sv)]) [1, 2, 3] rfl ht⟩, by rw [ht]; try exact hh_15.1.1, fun q h9 hq => by rw [ht]; try exact hh_15.1.2.1 q h9 hq⟩) hh_15.1.2.2 dX2_isHeader_80
    · skip
      have c_16' : a1.toInt = 10 := jb_ne_n (rfl) ((by decide)) c_16
      refine lv_iconst (v := 1) hx hb dX2_isHeader_75 (by decide) ?_
      refine lv_goto (tgt := 80) hx hb dX2_isHeader_76 (by decide) ?_
      rw [hQ]
      exact W.zret (v := 1) hx hb hr (jb_nz (Or.inr rfl)) (fun t ht hW => ⟨⟨1, (il, sg, sv), rfl, ⟨(Or.inr rfl), by first | omega | (refine ⟨?_, ?_, ?_, ?_, ?_, ?_, ?_⟩ <;> (first | omega | rfl | assumption | decide | exact Or.inl rfl | exact Or.inr rfl | (simp only; omega)))⟩, hh_15.rt (M1 := [(r0, 4, 9, .int il), (r0, 4, 8, .int sg), (r0, 4, 11, .int sv)]) [1, 2, 3] rfl ht⟩, by rw [ht]; try exact hh_15.1.1, fun q h9 hq => by rw [ht]; try exact hh_15.1.2.1 q h9 hq⟩) hh_15.1.2.2 dX2_isHeader_80
set_option maxHeartbeats 4000000 in
set_option maxRecDepth 20000 in
theorem uX2_accept (l : Launch) (dC : Nat → ClassId) (dI : Nat → Nat → Nat) (ca : Nat → ClassId) (base : Nat) (B : jF) (hB : jBok B) (hAp : jAp (dC, dI)) (hB4 : ∀ n G a H, B 4 n G a H ↔ jOb (dC, dI) 4 12 (F4 n G) a H) (hB100 : ∀ n G a H, B 100 n G a H ↔ jAr (dC, dI) (ca 0) (fun j z => True) n a H) (G0 : jT) (H0 : Heap) (r0 : Nat) (a1 : Int32) (il : Int32) (sg : Int32) (sv : Int32) (br : Int32) (fi : Int32) : Met l yX2_accept (jw yX2_accept cX2_accept 2 (some .boolean)) ({ frames := 7, cells := 0, slots := 0, locals := 205 }) (va_Pc [.ref r0, .int a1] (fun U => U.heap = H0 ∧ jX B base G0 [] H0 ∧ jG dC dI ca base U ∧ G0 r0 = some (4, 0) ∧ jP (dC, dI) G0 H0 [(r0, 4, 9, .int il), (r0, 4, 8, .int sg), (r0, 4, 11, .int sv), (r0, 4, 4, .int br), (r0, 4, 7, .int fi)] ∧ 0 ≤ sg.toInt + 4294967296 * (1 - il.toInt) ∧ sg.toInt ≤ 14 + 4294967296 * (1 - il.toInt) ∧ 0 ≤ il.toInt ∧ il.toInt ≤ 1 ∧ 0 ≤ sv.toInt ∧ sv.toInt ≤ 3000 + 100000 * br.toInt ∧ 0 ≤ br.toInt ∧ br.toInt ≤ 1 ∧ 0 ≤ fi.toInt ∧ fi.toInt ≤ 3000)) (va_Qi (S := Int32 × Int32 × Int32 × Int32 × Int32) (fun r u => (r = 0 ∨ r = 1) ∧ (0 ≤ u.2.1.toInt + 4294967296 * (1 - u.1.toInt) ∧ u.2.1.toInt ≤ 14 + 4294967296 * (1 - u.1.toInt) ∧ 0 ≤ u.1.toInt ∧ u.1.toInt ≤ 1 ∧ u.2.2.1.toInt ≤ 3000 + 100000 * u.2.2.2.1.toInt ∧ 0 ≤ u.2.2.2.1.toInt ∧ u.2.2.2.1.toInt ≤ 1 ∧ 0 ≤ u.2.2.2.2.toInt ∧ u.2.2.2.2.toInt ≤ 3000)) (fun u t => jRt (dC, dI) B base G0 EX2_accept H0 [(r0, 4, 9, .int u.1), (r0, 4, 8, .int u.2.1), (r0, 4, 11, .int u.2.2.1), (r0, 4, 4, .int u.2.2.2.1), (r0, 4, 7, .int u.2.2.2.2)] t.heap) (jA base)) 0 0 (jA base) := by
  refine Met.ofW (cc := cX2_accept) (maxL := 2) (ret := (some .boolean)) (by decide) rfl ?_
  intro p e s m args below meth c s₁ Bd hml hv
  obtain ⟨rfl, hH0, hX, hG, hg_r0, hP0, hp0, hp1, hp2, hp3, hp4, hp5, hp6, hp7, hp8, hp9⟩ := hv
  have hK := hG.1
  have hx := Bd.exec
  have hb := Bd.bytes
  have hr := Bd.returns
  have hts := atoms_spec (ws := (jw yX2_accept cX2_accept 2 (some .boolean))) Bd.pre
  have htw : ∀ w ∈ jWl, w.before _ s = true := fun w h => hts w (List.mem_cons_of_mem _ h)
  have hown : s.vm.findClass RX2 = some m.cls := findClass_of_methodNamed Bd.named
  have hlocks := Bd.notSynchronized
  obtain ⟨Q, hQ⟩ : ∃ Q, Q = MQ below (va_Qi (S := Int32 × Int32 × Int32 × Int32 × Int32) (fun r u => (r = 0 ∨ r = 1) ∧ (0 ≤ u.2.1.toInt + 4294967296 * (1 - u.1.toInt) ∧ u.2.1.toInt ≤ 14 + 4294967296 * (1 - u.1.toInt) ∧ 0 ≤ u.1.toInt ∧ u.1.toInt ≤ 1 ∧ u.2.2.1.toInt ≤ 3000 + 100000 * u.2.2.2.1.toInt ∧ 0 ≤ u.2.2.2.1.toInt ∧ u.2.2.2.1.toInt ≤ 1 ∧ 0 ≤ u.2.2.2.2.toInt ∧ u.2.2.2.2.toInt ≤ 3000)) (fun u t => jRt (dC, dI) B base G0 EX2_accept H0 [(r0, 4, 9, .int u.1), (r0, 4, 8, .int u.2.1), (r0, 4, 11, .int u.2.2.1), (r0, 4, 4, .int u.2.2.2.1), (r0, 4, 7, .int u.2.2.2.2)] t.heap) (jA base)) ([.ref r0, .int a1] : List Value).toArray s 0 0 (jA base) := ⟨_, rfl⟩
  rw [← hQ]
  have hl := lv_entry ([.ref r0, .int a1]) (n := 2) (Nat.le_of_ble_eq_true rfl)
  rw [lg_entry_eq]
  generalize (lg_sl ([.ref r0, .int a1]) ++ List.replicate (2 - (lg_sl ([.ref r0, .int a1])).length) Slot.unset).toArray = ls at hl ⊢
  have hl : lv_has ls 2 [(0, .ref r0), (1, .int a1)] := hl
  generalize hR : (headSpec (jw yX2_accept cX2_accept 2 (some .boolean)) ({ frames := 7, cells := 0, slots := 0, locals := 205 })).room = R
  subst hH0
  have hh : jSt (dC, dI) B base G0 G0 EX2_accept s.heap 0 0 [(r0, 4, 9, .int il), (r0, 4, 8, .int sg), (r0, 4, 11, .int sv), (r0, 4, 4, .int br), (r0, 4, 7, .int fi)] [] [] s.heap [] := jSt.start hX hP0 jMc.nil jIs.nil
  clear hX hP0
  have hkm1 : ((-1) : Int32).toInt = (-1) := by decide
  have hk0 : (0 : Int32).toInt = 0 := by decide
  have hk1 : (1 : Int32).toInt = 1 := by decide
  have hk6 : (6 : Int32).toInt = 6 := by decide
  have hk200 : (200 : Int32).toInt = 200 := by decide
  have hly_4_0 := htw (u_lay RX2 TX2 0) (jWc_wsX20 _ (u_in_lay (by decide)))
  have hly_4_1 := htw (u_lay RX2 TX2 1) (jWc_wsX20 _ (u_in_lay (by decide)))
  have hly_4_2 := htw (u_lay RX2 TX2 2) (jWc_wsX20 _ (u_in_lay (by decide)))
  have hly_4_3 := htw (u_lay RX2 TX2 3) (jWc_wsX20 _ (u_in_lay (by decide)))
  have hly_4_4 := htw (u_lay RX2 TX2 4) (jWc_wsX20 _ (u_in_lay (by decide)))
  have hly_4_5 := htw (u_lay RX2 TX2 5) (jWc_wsX20 _ (u_in_lay (by decide)))
  have hly_4_6 := htw (u_lay RX2 TX2 6) (jWc_wsX20 _ (u_in_lay (by decide)))
  have hly_4_7 := htw (u_lay RX2 TX2 7) (jWc_wsX20 _ (u_in_lay (by decide)))
  have hlk_22 := (htw (.fieldLink RX2 22 "ProofServer$Frames" "broken" "Z") (jWr_17 _ (List.mem_of_getElem? (i := 14) rfl)))
  have hlk_15 := (htw (.fieldLink RX2 15 "ProofServer$Frames" "place" "I") (jWr_3 _ (List.mem_of_getElem? (i := 15) rfl)))
  have hlk_26 := (htw (.fieldLink RX2 26 "ProofServer$Frames" "filled" "I") (jWr_17 _ (List.mem_of_getElem? (i := 15) rfl)))
  have hlk_9 := (htw (.fieldLink RX2 9 "ProofServer$Frames" "body" "[B") (jWr_3 _ (List.mem_of_getElem? (i := 14) rfl)))
  have hlk_29 := (htw (.fieldLink RX2 29 "ProofServer$Frames" "kept" "I") (jWr_17 _ (List.mem_of_getElem? (i := 16) rfl)))
  have hlk_19 := (htw (.fieldLink RX2 19 "ProofServer$Frames" "told" "I") (jWr_3 _ (List.mem_of_getElem? (i := 16) rfl)))
  have hlk_36 := (htw (.fieldLink RX2 36 "ProofServer$Frames" "length" "I") (jWr_17 _ (List.mem_of_getElem? (i := 17) rfl)))
  have hlk_39 := (htw (.fieldLink RX2 39 "ProofServer$Frames" "messages" "I") (jWr_17 _ (List.mem_of_getElem? (i := 18) rfl)))
  have hrg_a1 := jb_rng a1
  refine lv_aload_n hx hb dX2_accept_0 rfl (lv_at hl 0 rfl) ?_
  refine j7_read hx hb hown hK (C := RX2) (T := TX2) (N := 12) rfl hly_4_4 hlk_22 (hh.at 3 rfl) dX2_accept_1 ?_
  refine lv_if_eq (tgt := 9) hx hb dX2_accept_4 (by decide) (fun c_1 => ?_) (fun c_1 => ?_)
  · skip
    have c_1' : br.toInt = 0 := jb_eq (rfl) ((by decide)) c_1
    refine lv_aload_n hx hb dX2_accept_9 rfl (lv_at hl 0 rfl) ?_
    obtain ⟨v_2, hv_2, hh_3⟩ := hh.pin (C := RX2) (T := TX2) (N := 12) hB4 rfl (by decide) hg_r0 (i := 5) (by decide) rfl
    clear hh
    obtain ⟨place_4, rfl⟩ := hv_2
    refine j7_read hx hb hown hK (C := RX2) (T := TX2) (N := 12) rfl hly_4_5 hlk_15 (hh_3.at 0 rfl) dX2_accept_10 ?_
    refine lv_bipush (v := 6) hx hb dX2_accept_13 (by decide) ?_
    refine lv_icmp_ne (tgt := 54) hx hb dX2_accept_15 (by decide) (fun c_5 => ?_) (fun c_5 => ?_)
    · skip
      have c_5' : place_4.toInt ≠ 6 := jb_ne (rfl) ((by decide)) c_5
      refine lv_aload_n hx hb dX2_accept_54 rfl (lv_at hl 0 rfl) ?_
      obtain ⟨v_6, hv_6, hh_7⟩ := hh_3.pin (C := RX2) (T := TX2) (N := 12) hB4 rfl (by decide) hg_r0 (i := 2) (by decide) rfl
      clear hh_3
      obtain ⟨kept_8, rfl⟩ := hv_6
      refine j7_read hx hb hown hK (C := RX2) (T := TX2) (N := 12) rfl hly_4_2 hlk_29 (hh_7.at 0 rfl) dX2_accept_55 ?_
      refine lv_sipush (v := 200) hx hb dX2_accept_58 (by decide) ?_
      refine lv_icmp_ge (tgt := 72) hx hb dX2_accept_61 (by decide) (fun c_9 => ?_) (fun c_9 => ?_)
      · skip
        have c_9' : kept_8.toInt ≥ 200 := jb_ge (rfl) ((by decide)) c_9
        refine lv_aload_n hx hb dX2_accept_72 rfl (lv_at hl 0 rfl) ?_
        refine lv_iconst (v := 1) hx hb dX2_accept_73 (by decide) ?_
        refine j7_put hx hb hown hK hh_7 hB hAp hB4 (C := RX2) (T := TX2) (N := 12) rfl (by decide) hg_r0 (i := 4) (by decide) hly_4_4 rfl hlk_22 rfl (ty := .boolean) (v := .int 1) (by decide +kernel) (jb_nz (Or.inr rfl)) (jb_fz (Or.inr rfl)) (⟨_, rfl, (Or.inr rfl)⟩) rfl (L1 := [(r0, 4, 2, .int kept_8), (r0, 4, 5, .int place_4), (r0, 4, 9, .int il), (r0, 4, 8, .int sg), (r0, 4, 11, .int sv), (r0, 4, 7, .int fi)]) [0, 1, 2, 3, 4, 6] rfl rfl rfl dX2_accept_74 (fun H_10 locs_10 hh_10 => ?_)
        clear hh_7
        refine lv_iconst (v := 0) hx hb dX2_accept_77 (by decide) ?_
        rw [hQ]
        exact W.zret (v := 0) hx hb hr (jb_nz (Or.inl rfl)) (fun t ht hW => ⟨⟨0, (il, sg, sv, 1, fi), rfl, ⟨(Or.inl rfl), by first | omega | (refine ⟨?_, ?_, ?_, ?_, ?_, ?_, ?_, ?_, ?_⟩ <;> (first | omega | rfl | assumption | decide | exact Or.inl rfl | exact Or.inr rfl | (simp only; omega)))⟩, hh_10.rt (M1 := [(r0, 4, 9, .int il), (r0, 4, 8, .int sg), (r0, 4, 11, .int sv), (r0, 4, 4, .int 1), (r0, 4, 7, .int fi)]) [3, 4, 5, 0, 6] rfl ht⟩, by rw [ht]; try exact hh_10.1.1, fun q h9 hq => by rw [ht]; try exact hh_10.1.2.1 q h9 hq⟩) hh_10.1.2.2 dX2_accept_78
      · skip
        have c_9' : kept_8.toInt < 200 := jb_ge_n (rfl) ((by decide)) c_9
        refine lv_aload_n hx hb dX2_accept_64 rfl (lv_at hl 0 rfl) ?_
        refine lv_iload_n hx hb dX2_accept_65 rfl (lv_at hl 1 rfl) ?_
        refine va_calli (A0 := jA base) (H0 := s.heap) (va_runV (As := [.int a1]) (rest := []) ⟨hx, hb, hml, hown, hts⟩ (uX2_isHeader l dC dI ca base B hB hAp hB4 G0 s.heap r0 a1 il sg sv) (cwV 1 hts (jgV (jWr_17 _ (List.mem_of_getElem? (i := 19) rfl)) (jWr_17 _ (List.mem_of_getElem? (i := 20) rfl)) (jWr_17 _ (List.mem_of_getElem? (i := 21) rfl)) (jWr_1 _ (List.mem_of_getElem? (i := 18) rfl)) (jWr_17 _ (List.mem_of_getElem? (i := 22) rfl))) rfl rfl rfl (by decide +kernel) ⟨by rw [← hR]; exact Nat.le_of_ble_eq_true rfl, by rw [← hR]; exact Nat.le_of_ble_eq_true rfl⟩) ⟨fun a U g mk q => by obtain ⟨q0, q1, q2, qK, q10, q11, q12⟩ := q; exact ⟨q0, q1, q2, jG.calling g mk a qK, q10, q11, q12⟩, hh_7.recv (C := RX2) (T := TX2) (N := 12) hB4 rfl (by decide) hg_r0 hK, fun U hU hW => ⟨rfl, hU, hh_7.2.1, hG.step hW hU hh_7.1, hg_r0, (hh_7.2.2.1.sub (L1 := [(r0, 4, 9, .int il), (r0, 4, 8, .int sg), (r0, 4, 11, .int sv)]) [2, 3, 4] rfl), by first | omega | (refine ⟨?_, ?_, ?_, ?_, ?_, ?_⟩ <;> (first | omega | rfl | assumption | decide | exact Or.inl rfl | exact Or.inr rfl | (simp only; omega)))⟩⟩ rfl rfl hl.1 rfl (lv_room (Nat.le_of_ble_eq_true rfl)) dX2_accept_66 ⟨Nat.zero_le _, Nat.zero_le _⟩) hh_7.1 (fun q _ h => h) (fun q h => h) (fun r_12 u_11 t_11 H_11 locs_11 ht_11 hvm_11 hr_12 hb_11 hz_11 hk_11 hS_11 => ?_)
        obtain ⟨ql_11, qg_11, qv_11⟩ := u_11
        rw [ht_11] at hb_11
        obtain ⟨hb_111, hb_112, hb_113, hb_114, hb_115⟩ := hb_11
        have hh_11 : jSt (dC, dI) B base G0 G0 EX2_accept s.heap 0 0 [(r0, 4, 9, .int ql_11), (r0, 4, 8, .int qg_11), (r0, 4, 11, .int qv_11), (r0, 4, 2, .int kept_8), (r0, 4, 4, .int br), (r0, 4, 7, .int fi)] [] [] H_11 locs_11 := ((hh_7.call hb_111 hb_112 hb_113 hb_114 hS_11 rfl (L1 := [(r0, 4, 2, .int kept_8), (r0, 4, 4, .int br), (r0, 4, 7, .int fi)]) [0, 5, 6] rfl rfl (M1 := []) [] rfl rfl (I1 := []) [] rfl rfl).more hb_115)
        clear hh_7 ht_11 hvm_11 hz_11 hk_11 hS_11 hb_111 hb_112 hb_113 hb_114 hb_115
        try simp only at hr_12
        obtain ⟨hr_12b, hr_12p⟩ := hr_12
        obtain ⟨hr_12p_0, hr_12p_1, hr_12p_2, hr_12p_3, hr_12p_4, hr_12p_5, hr_12p_6⟩ := hr_12p
        have hr_12' := jb_01 hr_12b
        refine lv_if_ne (tgt := 79) hx hb dX2_accept_69 (by decide) (fun c_13 => ?_) (fun c_13 => ?_)
        · skip
          have c_13' : r_12.toInt ≠ 0 := jb_ne (rfl) ((by decide)) c_13
          refine lv_aload_n hx hb dX2_accept_79 rfl (lv_at hl 0 rfl) ?_
          refine lv_dup hx hb dX2_accept_80 rfl ?_
          refine j7_read hx hb hown hK (C := RX2) (T := TX2) (N := 12) rfl hly_4_2 hlk_29 (hh_11.at 3 rfl) dX2_accept_81 ?_
          refine lv_iconst (v := 1) hx hb dX2_accept_84 (by decide) ?_
          refine lv_iadd hx hb dX2_accept_85 ?_
          refine lv_topi (fun z_14 ez_14 => ?_)
          refine j7_put hx hb hown hK hh_11 hB hAp hB4 (C := RX2) (T := TX2) (N := 12) rfl (by decide) hg_r0 (i := 2) (by decide) hly_4_2 rfl hlk_29 rfl (ty := .int) (v := .int z_14) (by decide +kernel) rfl rfl (⟨_, rfl⟩) rfl (L1 := [(r0, 4, 9, .int ql_11), (r0, 4, 8, .int qg_11), (r0, 4, 11, .int qv_11), (r0, 4, 4, .int br), (r0, 4, 7, .int fi)]) [0, 1, 2, 4, 5] rfl rfl rfl dX2_accept_86 (fun H_15 locs_15 hh_15 => ?_)
          clear hh_11
          refine lv_aload_n hx hb dX2_accept_89 rfl (lv_at hl 0 rfl) ?_
          obtain ⟨v_16, hv_16, hh_17⟩ := hh_15.pin (C := RX2) (T := TX2) (N := 12) hB4 rfl (by decide) hg_r0 (i := 5) (by decide) rfl
          clear hh_15
          obtain ⟨place_18, rfl⟩ := hv_16
          refine j7_read hx hb hown hK (C := RX2) (T := TX2) (N := 12) rfl hly_4_5 hlk_15 (hh_17.at 0 rfl) dX2_accept_90 ?_
          refine lv_bipush (v := 6) hx hb dX2_accept_93 (by decide) ?_
          refine lv_icmp_ne (tgt := 109) hx hb dX2_accept_95 (by decide) (fun c_19 => ?_) (fun c_19 => ?_)
          · skip
            have c_19' : place_18.toInt ≠ 6 := jb_ne (rfl) ((by decide)) c_19
            refine lv_iconst (v := 0) hx hb dX2_accept_109 (by decide) ?_
            rw [hQ]
            exact W.zret (v := 0) hx hb hr (jb_nz (Or.inl rfl)) (fun t ht hW => ⟨⟨0, (ql_11, qg_11, qv_11, br, fi), rfl, ⟨(Or.inl rfl), by first | omega | (refine ⟨?_, ?_, ?_, ?_, ?_, ?_, ?_, ?_, ?_⟩ <;> (first | omega | rfl | assumption | decide | exact Or.inl rfl | exact Or.inr rfl | (simp only; omega)))⟩, hh_17.rt (M1 := [(r0, 4, 9, .int ql_11), (r0, 4, 8, .int qg_11), (r0, 4, 11, .int qv_11), (r0, 4, 4, .int br), (r0, 4, 7, .int fi)]) [2, 3, 4, 5, 6] rfl ht⟩, by rw [ht]; try exact hh_17.1.1, fun q h9 hq => by rw [ht]; try exact hh_17.1.2.1 q h9 hq⟩) hh_17.1.2.2 dX2_accept_110
          · skip
            have c_19' : place_18.toInt = 6 := jb_ne_n (rfl) ((by decide)) c_19
            refine lv_aload_n hx hb dX2_accept_98 rfl (lv_at hl 0 rfl) ?_
            refine j7_read hx hb hown hK (C := RX2) (T := TX2) (N := 12) rfl hly_4_7 hlk_26 (hh_17.at 6 rfl) dX2_accept_99 ?_
            refine lv_aload_n hx hb dX2_accept_102 rfl (lv_at hl 0 rfl) ?_
            obtain ⟨v_20, hv_20, hh_21⟩ := hh_17.pin (C := RX2) (T := TX2) (N := 12) hB4 rfl (by decide) hg_r0 (i := 6) (by decide) rfl
            clear hh_17
            obtain ⟨told_22, rfl, hlotold_22, hhitold_22⟩ := hv_20
            refine j7_read hx hb hown hK (C := RX2) (T := TX2) (N := 12) rfl hly_4_6 hlk_19 (hh_21.at 0 rfl) dX2_accept_103 ?_
            refine lv_icmp_ge (tgt := 111) hx hb dX2_accept_106 (by decide) (fun c_23 => ?_) (fun c_23 => ?_)
            · skip
              have c_23' : fi.toInt ≥ told_22.toInt := jb_ge (rfl) (rfl) c_23
              refine lv_aload_n hx hb dX2_accept_111 rfl (lv_at hl 0 rfl) ?_
              refine lv_aload_n hx hb dX2_accept_112 rfl (lv_at hl 0 rfl) ?_
              refine j7_read hx hb hown hK (C := RX2) (T := TX2) (N := 12) rfl hly_4_6 hlk_19 (hh_21.at 0 rfl) dX2_accept_113 ?_
              refine j7_put hx hb hown hK hh_21 hB hAp hB4 (C := RX2) (T := TX2) (N := 12) rfl (by decide) hg_r0 (i := 1) (by decide) hly_4_1 rfl hlk_36 rfl (ty := .int) (v := .int told_22) (by decide +kernel) rfl rfl (⟨_, rfl, by omega, by omega⟩) rfl (L1 := [(r0, 4, 6, .int told_22), (r0, 4, 5, .int place_18), (r0, 4, 2, .int z_14), (r0, 4, 9, .int ql_11), (r0, 4, 8, .int qg_11), (r0, 4, 11, .int qv_11), (r0, 4, 4, .int br), (r0, 4, 7, .int fi)]) [0, 1, 2, 3, 4, 5, 6, 7] rfl rfl rfl dX2_accept_116 (fun H_24 locs_24 hh_24 => ?_)
              clear hh_21
              refine lv_aload_n hx hb dX2_accept_119 rfl (lv_at hl 0 rfl) ?_
              refine lv_iconst (v := (-1)) hx hb dX2_accept_120 (by decide) ?_
              refine j7_put hx hb hown hK hh_24 hB hAp hB4 (C := RX2) (T := TX2) (N := 12) rfl (by decide) hg_r0 (i := 6) (by decide) hly_4_6 rfl hlk_19 rfl (ty := .int) (v := .int (-1)) (by decide +kernel) rfl rfl (⟨_, rfl, by omega, by omega⟩) rfl (L1 := [(r0, 4, 1, .int told_22), (r0, 4, 5, .int place_18), (r0, 4, 2, .int z_14), (r0, 4, 9, .int ql_11), (r0, 4, 8, .int qg_11), (r0, 4, 11, .int qv_11), (r0, 4, 4, .int br), (r0, 4, 7, .int fi)]) [0, 2, 3, 4, 5, 6, 7, 8] rfl rfl rfl dX2_accept_121 (fun H_25 locs_25 hh_25 => ?_)
              clear hh_24
              refine lv_aload_n hx hb dX2_accept_124 rfl (lv_at hl 0 rfl) ?_
              refine lv_iconst (v := 0) hx hb dX2_accept_125 (by decide) ?_
              refine j7_put hx hb hown hK hh_25 hB hAp hB4 (C := RX2) (T := TX2) (N := 12) rfl (by decide) hg_r0 (i := 7) (by decide) hly_4_7 rfl hlk_26 rfl (ty := .int) (v := .int 0) (by decide +kernel) rfl rfl (⟨_, rfl, by omega, by omega⟩) rfl (L1 := [(r0, 4, 6, .int (-1)), (r0, 4, 1, .int told_22), (r0, 4, 5, .int place_18), (r0, 4, 2, .int z_14), (r0, 4, 9, .int ql_11), (r0, 4, 8, .int qg_11), (r0, 4, 11, .int qv_11), (r0, 4, 4, .int br)]) [0, 1, 2, 3, 4, 5, 6, 7] rfl rfl rfl dX2_accept_126 (fun H_26 locs_26 hh_26 => ?_)
              clear hh_25
              refine lv_aload_n hx hb dX2_accept_129 rfl (lv_at hl 0 rfl) ?_
              refine lv_iconst (v := 0) hx hb dX2_accept_130 (by decide) ?_
              refine j7_put hx hb hown hK hh_26 hB hAp hB4 (C := RX2) (T := TX2) (N := 12) rfl (by decide) hg_r0 (i := 2) (by decide) hly_4_2 rfl hlk_29 rfl (ty := .int) (v := .int 0) (by decide +kernel) rfl rfl (⟨_, rfl⟩) rfl (L1 := [(r0, 4, 7, .int 0), (r0, 4, 6, .int (-1)), (r0, 4, 1, .int told_22), (r0, 4, 5, .int place_18), (r0, 4, 9, .int ql_11), (r0, 4, 8, .int qg_11), (r0, 4, 11, .int qv_11), (r0, 4, 4, .int br)]) [0, 1, 2, 3, 5, 6, 7, 8] rfl rfl rfl dX2_accept_131 (fun H_27 locs_27 hh_27 => ?_)
              clear hh_26
              refine lv_aload_n hx hb dX2_accept_134 rfl (lv_at hl 0 rfl) ?_
              refine lv_iconst (v := 0) hx hb dX2_accept_135 (by decide) ?_
              refine j7_put hx hb hown hK hh_27 hB hAp hB4 (C := RX2) (T := TX2) (N := 12) rfl (by decide) hg_r0 (i := 5) (by decide) hly_4_5 rfl hlk_15 rfl (ty := .int) (v := .int 0) (by decide +kernel) rfl rfl (⟨_, rfl⟩) rfl (L1 := [(r0, 4, 2, .int 0), (r0, 4, 7, .int 0), (r0, 4, 6, .int (-1)), (r0, 4, 1, .int told_22), (r0, 4, 9, .int ql_11), (r0, 4, 8, .int qg_11), (r0, 4, 11, .int qv_11), (r0, 4, 4, .int br)]) [0, 1, 2, 3, 5, 6, 7, 8] rfl rfl rfl dX2_accept_136 (fun H_28 locs_28 hh_28 => ?_)
              clear hh_27
              refine lv_aload_n hx hb dX2_accept_139 rfl (lv_at hl 0 rfl) ?_
              refine lv_dup hx hb dX2_accept_140 rfl ?_
              obtain ⟨v_29, hv_29, hh_30⟩ := hh_28.pin (C := RX2) (T := TX2) (N := 12) hB4 rfl (by decide) hg_r0 (i := 3) (by decide) rfl
              clear hh_28
              obtain ⟨messages_31, rfl⟩ := hv_29
              refine j7_read hx hb hown hK (C := RX2) (T := TX2) (N := 12) rfl hly_4_3 hlk_39 (hh_30.at 0 rfl) dX2_accept_141 ?_
              refine lv_iconst (v := 1) hx hb dX2_accept_144 (by decide) ?_
              refine lv_iadd hx hb dX2_accept_145 ?_
              refine lv_topi (fun z_32 ez_32 => ?_)
              refine j7_put hx hb hown hK hh_30 hB hAp hB4 (C := RX2) (T := TX2) (N := 12) rfl (by decide) hg_r0 (i := 3) (by decide) hly_4_3 rfl hlk_39 rfl (ty := .int) (v := .int z_32) (by decide +kernel) rfl rfl (⟨_, rfl⟩) rfl (L1 := [(r0, 4, 5, .int 0), (r0, 4, 2, .int 0), (r0, 4, 7, .int 0), (r0, 4, 6, .int (-1)), (r0, 4, 1, .int told_22), (r0, 4, 9, .int ql_11), (r0, 4, 8, .int qg_11), (r0, 4, 11, .int qv_11), (r0, 4, 4, .int br)]) [1, 2, 3, 4, 5, 6, 7, 8, 9] rfl rfl rfl dX2_accept_146 (fun H_33 locs_33 hh_33 => ?_)
              clear hh_30
              refine lv_iconst (v := 1) hx hb dX2_accept_149 (by decide) ?_
              rw [hQ]
              exact W.zret (v := 1) hx hb hr (jb_nz (Or.inr rfl)) (fun t ht hW => ⟨⟨1, (ql_11, qg_11, qv_11, br, 0), rfl, ⟨(Or.inr rfl), by first | omega | (refine ⟨?_, ?_, ?_, ?_, ?_, ?_, ?_, ?_, ?_⟩ <;> (first | omega | rfl | assumption | decide | exact Or.inl rfl | exact Or.inr rfl | (simp only; omega)))⟩, hh_33.rt (M1 := [(r0, 4, 9, .int ql_11), (r0, 4, 8, .int qg_11), (r0, 4, 11, .int qv_11), (r0, 4, 4, .int br), (r0, 4, 7, .int 0)]) [6, 7, 8, 9, 3] rfl ht⟩, by rw [ht]; try exact hh_33.1.1, fun q h9 hq => by rw [ht]; try exact hh_33.1.2.1 q h9 hq⟩) hh_33.1.2.2 dX2_accept_150
            · skip
              have c_23' : fi.toInt < told_22.toInt := jb_ge_n (rfl) (rfl) c_23
              refine lv_iconst (v := 0) hx hb dX2_accept_109 (by decide) ?_
              rw [hQ]
              exact W.zret (v := 0) hx hb hr (jb_nz (Or.inl rfl)) (fun t ht hW => ⟨⟨0, (ql_11, qg_11, qv_11, br, fi), rfl, ⟨(Or.inl rfl), by first | omega | (refine ⟨?_, ?_, ?_, ?_, ?_, ?_, ?_, ?_, ?_⟩ <;> (first | omega | rfl | assumption | decide | exact Or.inl rfl | exact Or.inr rfl | (simp only; omega)))⟩, hh_21.rt (M1 := [(r0, 4, 9, .int ql_11), (r0, 4, 8, .int qg_11), (r0, 4, 11, .int qv_11), (r0, 4, 4, .int br), (r0, 4, 7, .int fi)]) [3, 4, 5, 6, 7] rfl ht⟩, by rw [ht]; try exact hh_21.1.1, fun q h9 hq => by rw [ht]; try exact hh_21.1.2.1 q h9 hq⟩) hh_21.1.2.2 dX2_accept_110
        · skip
          have c_13' : r_12.toInt = 0 := jb_ne_n (rfl) ((by decide)) c_13
          refine lv_aload_n hx hb dX2_accept_72 rfl (lv_at hl 0 rfl) ?_
          refine lv_iconst (v := 1) hx hb dX2_accept_73 (by decide) ?_
          refine j7_put hx hb hown hK hh_11 hB hAp hB4 (C := RX2) (T := TX2) (N := 12) rfl (by decide) hg_r0 (i := 4) (by decide) hly_4_4 rfl hlk_22 rfl (ty := .boolean) (v := .int 1) (by decide +kernel) (jb_nz (Or.inr rfl)) (jb_fz (Or.inr rfl)) (⟨_, rfl, (Or.inr rfl)⟩) rfl (L1 := [(r0, 4, 9, .int ql_11), (r0, 4, 8, .int qg_11), (r0, 4, 11, .int qv_11), (r0, 4, 2, .int kept_8), (r0, 4, 7, .int fi)]) [0, 1, 2, 3, 5] rfl rfl rfl dX2_accept_74 (fun H_34 locs_34 hh_34 => ?_)
          clear hh_11
          refine lv_iconst (v := 0) hx hb dX2_accept_77 (by decide) ?_
          rw [hQ]
          exact W.zret (v := 0) hx hb hr (jb_nz (Or.inl rfl)) (fun t ht hW => ⟨⟨0, (ql_11, qg_11, qv_11, 1, fi), rfl, ⟨(Or.inl rfl), by first | omega | (refine ⟨?_, ?_, ?_, ?_, ?_, ?_, ?_, ?_, ?_⟩ <;> (first | omega | rfl | assumption | decide | exact Or.inl rfl | exact Or.inr rfl | (simp only; omega)))⟩, hh_34.rt (M1 := [(r0, 4, 9, .int ql_11), (r0, 4, 8, .int qg_11), (r0, 4, 11, .int qv_11), (r0, 4, 4, .int 1), (r0, 4, 7, .int fi)]) [1, 2, 3, 0, 5] rfl ht⟩, by rw [ht]; try exact hh_34.1.1, fun q h9 hq => by rw [ht]; try exact hh_34.1.2.1 q h9 hq⟩) hh_34.1.2.2 dX2_accept_78
    · skip
      have c_5' : place_4.toInt = 6 := jb_ne_n (rfl) ((by decide)) c_5
      refine lv_aload_n hx hb dX2_accept_18 rfl (lv_at hl 0 rfl) ?_
      refine j7_read hx hb hown hK (C := RX2) (T := TX2) (N := 12) rfl hly_4_7 hlk_26 (hh_3.at 5 rfl) dX2_accept_19 ?_
      refine lv_aload_n hx hb dX2_accept_22 rfl (lv_at hl 0 rfl) ?_
      obtain ⟨v_35, hv_35, hh_36⟩ := hh_3.pin (C := RX2) (T := TX2) (N := 12) hB4 rfl (by decide) hg_r0 (i := 0) (by decide) rfl
      clear hh_3
      obtain ⟨body_37, rfl, hg_body_37⟩ := hv_35
      refine j7_read hx hb hown hK (C := RX2) (T := TX2) (N := 12) rfl hly_4_0 hlk_9 (hh_36.at 0 rfl) dX2_accept_23 ?_
      refine j7_len hx hb hK hh_36 hB100 0 rfl (by decide) hg_body_37 (by omega) dX2_accept_26 (fun z_38 hz_38 => ?_)
      refine lv_icmp_ge (tgt := 41) hx hb dX2_accept_27 (by decide) (fun c_39 => ?_) (fun c_39 => ?_)
      · skip
        have c_39' : fi.toInt ≥ z_38.toInt := jb_ge (rfl) (rfl) c_39
        refine lv_aload_n hx hb dX2_accept_41 rfl (lv_at hl 0 rfl) ?_
        refine lv_dup hx hb dX2_accept_42 rfl ?_
        refine j7_read hx hb hown hK (C := RX2) (T := TX2) (N := 12) rfl hly_4_7 hlk_26 (hh_36.at 6 rfl) dX2_accept_43 ?_
        refine lv_iconst (v := 1) hx hb dX2_accept_46 (by decide) ?_
        refine lv_iadd hx hb dX2_accept_47 ?_
        refine lv_topi (fun z_40 ez_40 => ?_)
        have hz_40 : z_40.toInt = fi.toInt + 1 := by rw [ez_40]; exact jb_iadd2 (rfl) ((by decide)) (by omega)
        refine j7_put hx hb hown hK hh_36 hB hAp hB4 (C := RX2) (T := TX2) (N := 12) rfl (by decide) hg_r0 (i := 7) (by decide) hly_4_7 rfl hlk_26 rfl (ty := .int) (v := .int z_40) (by decide +kernel) rfl rfl (⟨_, rfl, by omega, by omega⟩) rfl (L1 := [(r0, 4, 0, .ref body_37), (r0, 4, 5, .int place_4), (r0, 4, 9, .int il), (r0, 4, 8, .int sg), (r0, 4, 11, .int sv), (r0, 4, 4, .int br)]) [0, 1, 2, 3, 4, 5] rfl rfl rfl dX2_accept_48 (fun H_41 locs_41 hh_41 => ?_)
        clear hh_36
        refine lv_goto (tgt := 79) hx hb dX2_accept_51 (by decide) ?_
        refine lv_aload_n hx hb dX2_accept_79 rfl (lv_at hl 0 rfl) ?_
        refine lv_dup hx hb dX2_accept_80 rfl ?_
        obtain ⟨v_42, hv_42, hh_43⟩ := hh_41.pin (C := RX2) (T := TX2) (N := 12) hB4 rfl (by decide) hg_r0 (i := 2) (by decide) rfl
        clear hh_41
        obtain ⟨kept_44, rfl⟩ := hv_42
        refine j7_read hx hb hown hK (C := RX2) (T := TX2) (N := 12) rfl hly_4_2 hlk_29 (hh_43.at 0 rfl) dX2_accept_81 ?_
        refine lv_iconst (v := 1) hx hb dX2_accept_84 (by decide) ?_
        refine lv_iadd hx hb dX2_accept_85 ?_
        refine lv_topi (fun z_45 ez_45 => ?_)
        refine j7_put hx hb hown hK hh_43 hB hAp hB4 (C := RX2) (T := TX2) (N := 12) rfl (by decide) hg_r0 (i := 2) (by decide) hly_4_2 rfl hlk_29 rfl (ty := .int) (v := .int z_45) (by decide +kernel) rfl rfl (⟨_, rfl⟩) rfl (L1 := [(r0, 4, 7, .int z_40), (r0, 4, 0, .ref body_37), (r0, 4, 5, .int place_4), (r0, 4, 9, .int il), (r0, 4, 8, .int sg), (r0, 4, 11, .int sv), (r0, 4, 4, .int br)]) [1, 2, 3, 4, 5, 6, 7] rfl rfl rfl dX2_accept_86 (fun H_46 locs_46 hh_46 => ?_)
        clear hh_43
        refine lv_aload_n hx hb dX2_accept_89 rfl (lv_at hl 0 rfl) ?_
        refine j7_read hx hb hown hK (C := RX2) (T := TX2) (N := 12) rfl hly_4_5 hlk_15 (hh_46.at 3 rfl) dX2_accept_90 ?_
        refine lv_bipush (v := 6) hx hb dX2_accept_93 (by decide) ?_
        refine lv_icmp_ne (tgt := 109) hx hb dX2_accept_95 (by decide) (fun c_47 => ?_) (fun c_47 => ?_)
        · skip
          have c_47' : place_4.toInt ≠ 6 := jb_ne (rfl) ((by decide)) c_47
          refine lv_iconst (v := 0) hx hb dX2_accept_109 (by decide) ?_
          rw [hQ]
          exact W.zret (v := 0) hx hb hr (jb_nz (Or.inl rfl)) (fun t ht hW => ⟨⟨0, (il, sg, sv, br, z_40), rfl, ⟨(Or.inl rfl), by first | omega | (refine ⟨?_, ?_, ?_, ?_, ?_, ?_, ?_, ?_, ?_⟩ <;> (first | omega | rfl | assumption | decide | exact Or.inl rfl | exact Or.inr rfl | (simp only; omega)))⟩, hh_46.rt (M1 := [(r0, 4, 9, .int il), (r0, 4, 8, .int sg), (r0, 4, 11, .int sv), (r0, 4, 4, .int br), (r0, 4, 7, .int z_40)]) [4, 5, 6, 7, 1] rfl ht⟩, by rw [ht]; try exact hh_46.1.1, fun q h9 hq => by rw [ht]; try exact hh_46.1.2.1 q h9 hq⟩) hh_46.1.2.2 dX2_accept_110
        · skip
          have c_47' : place_4.toInt = 6 := jb_ne_n (rfl) ((by decide)) c_47
          refine lv_aload_n hx hb dX2_accept_98 rfl (lv_at hl 0 rfl) ?_
          refine j7_read hx hb hown hK (C := RX2) (T := TX2) (N := 12) rfl hly_4_7 hlk_26 (hh_46.at 1 rfl) dX2_accept_99 ?_
          refine lv_aload_n hx hb dX2_accept_102 rfl (lv_at hl 0 rfl) ?_
          obtain ⟨v_48, hv_48, hh_49⟩ := hh_46.pin (C := RX2) (T := TX2) (N := 12) hB4 rfl (by decide) hg_r0 (i := 6) (by decide) rfl
          clear hh_46
          obtain ⟨told_50, rfl, hlotold_50, hhitold_50⟩ := hv_48
          refine j7_read hx hb hown hK (C := RX2) (T := TX2) (N := 12) rfl hly_4_6 hlk_19 (hh_49.at 0 rfl) dX2_accept_103 ?_
          refine lv_icmp_ge (tgt := 111) hx hb dX2_accept_106 (by decide) (fun c_51 => ?_) (fun c_51 => ?_)
          · skip
            have c_51' : z_40.toInt ≥ told_50.toInt := jb_ge (rfl) (rfl) c_51
            refine lv_aload_n hx hb dX2_accept_111 rfl (lv_at hl 0 rfl) ?_
            refine lv_aload_n hx hb dX2_accept_112 rfl (lv_at hl 0 rfl) ?_
            refine j7_read hx hb hown hK (C := RX2) (T := TX2) (N := 12) rfl hly_4_6 hlk_19 (hh_49.at 0 rfl) dX2_accept_113 ?_
            refine j7_put hx hb hown hK hh_49 hB hAp hB4 (C := RX2) (T := TX2) (N := 12) rfl (by decide) hg_r0 (i := 1) (by decide) hly_4_1 rfl hlk_36 rfl (ty := .int) (v := .int told_50) (by decide +kernel) rfl rfl (⟨_, rfl, by omega, by omega⟩) rfl (L1 := [(r0, 4, 6, .int told_50), (r0, 4, 2, .int z_45), (r0, 4, 7, .int z_40), (r0, 4, 0, .ref body_37), (r0, 4, 5, .int place_4), (r0, 4, 9, .int il), (r0, 4, 8, .int sg), (r0, 4, 11, .int sv), (r0, 4, 4, .int br)]) [0, 1, 2, 3, 4, 5, 6, 7, 8] rfl rfl rfl dX2_accept_116 (fun H_52 locs_52 hh_52 => ?_)
            clear hh_49
            refine lv_aload_n hx hb dX2_accept_119 rfl (lv_at hl 0 rfl) ?_
            refine lv_iconst (v := (-1)) hx hb dX2_accept_120 (by decide) ?_
            refine j7_put hx hb hown hK hh_52 hB hAp hB4 (C := RX2) (T := TX2) (N := 12) rfl (by decide) hg_r0 (i := 6) (by decide) hly_4_6 rfl hlk_19 rfl (ty := .int) (v := .int (-1)) (by decide +kernel) rfl rfl (⟨_, rfl, by omega, by omega⟩) rfl (L1 := [(r0, 4, 1, .int told_50), (r0, 4, 2, .int z_45), (r0, 4, 7, .int z_40), (r0, 4, 0, .ref body_37), (r0, 4, 5, .int place_4), (r0, 4, 9, .int il), (r0, 4, 8, .int sg), (r0, 4, 11, .int sv), (r0, 4, 4, .int br)]) [0, 2, 3, 4, 5, 6, 7, 8, 9] rfl rfl rfl dX2_accept_121 (fun H_53 locs_53 hh_53 => ?_)
            clear hh_52
            refine lv_aload_n hx hb dX2_accept_124 rfl (lv_at hl 0 rfl) ?_
            refine lv_iconst (v := 0) hx hb dX2_accept_125 (by decide) ?_
            refine j7_put hx hb hown hK hh_53 hB hAp hB4 (C := RX2) (T := TX2) (N := 12) rfl (by decide) hg_r0 (i := 7) (by decide) hly_4_7 rfl hlk_26 rfl (ty := .int) (v := .int 0) (by decide +kernel) rfl rfl (⟨_, rfl, by omega, by omega⟩) rfl (L1 := [(r0, 4, 6, .int (-1)), (r0, 4, 1, .int told_50), (r0, 4, 2, .int z_45), (r0, 4, 0, .ref body_37), (r0, 4, 5, .int place_4), (r0, 4, 9, .int il), (r0, 4, 8, .int sg), (r0, 4, 11, .int sv), (r0, 4, 4, .int br)]) [0, 1, 2, 4, 5, 6, 7, 8, 9] rfl rfl rfl dX2_accept_126 (fun H_54 locs_54 hh_54 => ?_)
            clear hh_53
            refine lv_aload_n hx hb dX2_accept_129 rfl (lv_at hl 0 rfl) ?_
            refine lv_iconst (v := 0) hx hb dX2_accept_130 (by decide) ?_
            refine j7_put hx hb hown hK hh_54 hB hAp hB4 (C := RX2) (T := TX2) (N := 12) rfl (by decide) hg_r0 (i := 2) (by decide) hly_4_2 rfl hlk_29 rfl (ty := .int) (v := .int 0) (by decide +kernel) rfl rfl (⟨_, rfl⟩) rfl (L1 := [(r0, 4, 7, .int 0), (r0, 4, 6, .int (-1)), (r0, 4, 1, .int told_50), (r0, 4, 0, .ref body_37), (r0, 4, 5, .int place_4), (r0, 4, 9, .int il), (r0, 4, 8, .int sg), (r0, 4, 11, .int sv), (r0, 4, 4, .int br)]) [0, 1, 2, 4, 5, 6, 7, 8, 9] rfl rfl rfl dX2_accept_131 (fun H_55 locs_55 hh_55 => ?_)
            clear hh_54
            refine lv_aload_n hx hb dX2_accept_134 rfl (lv_at hl 0 rfl) ?_
            refine lv_iconst (v := 0) hx hb dX2_accept_135 (by decide) ?_
            refine j7_put hx hb hown hK hh_55 hB hAp hB4 (C := RX2) (T := TX2) (N := 12) rfl (by decide) hg_r0 (i := 5) (by decide) hly_4_5 rfl hlk_15 rfl (ty := .int) (v := .int 0) (by decide +kernel) rfl rfl (⟨_, rfl⟩) rfl (L1 := [(r0, 4, 2, .int 0), (r0, 4, 7, .int 0), (r0, 4, 6, .int (-1)), (r0, 4, 1, .int told_50), (r0, 4, 0, .ref body_37), (r0, 4, 9, .int il), (r0, 4, 8, .int sg), (r0, 4, 11, .int sv), (r0, 4, 4, .int br)]) [0, 1, 2, 3, 4, 6, 7, 8, 9] rfl rfl rfl dX2_accept_136 (fun H_56 locs_56 hh_56 => ?_)
            clear hh_55
            refine lv_aload_n hx hb dX2_accept_139 rfl (lv_at hl 0 rfl) ?_
            refine lv_dup hx hb dX2_accept_140 rfl ?_
            obtain ⟨v_57, hv_57, hh_58⟩ := hh_56.pin (C := RX2) (T := TX2) (N := 12) hB4 rfl (by decide) hg_r0 (i := 3) (by decide) rfl
            clear hh_56
            obtain ⟨messages_59, rfl⟩ := hv_57
            refine j7_read hx hb hown hK (C := RX2) (T := TX2) (N := 12) rfl hly_4_3 hlk_39 (hh_58.at 0 rfl) dX2_accept_141 ?_
            refine lv_iconst (v := 1) hx hb dX2_accept_144 (by decide) ?_
            refine lv_iadd hx hb dX2_accept_145 ?_
            refine lv_topi (fun z_60 ez_60 => ?_)
            refine j7_put hx hb hown hK hh_58 hB hAp hB4 (C := RX2) (T := TX2) (N := 12) rfl (by decide) hg_r0 (i := 3) (by decide) hly_4_3 rfl hlk_39 rfl (ty := .int) (v := .int z_60) (by decide +kernel) rfl rfl (⟨_, rfl⟩) rfl (L1 := [(r0, 4, 5, .int 0), (r0, 4, 2, .int 0), (r0, 4, 7, .int 0), (r0, 4, 6, .int (-1)), (r0, 4, 1, .int told_50), (r0, 4, 0, .ref body_37), (r0, 4, 9, .int il), (r0, 4, 8, .int sg), (r0, 4, 11, .int sv), (r0, 4, 4, .int br)]) [1, 2, 3, 4, 5, 6, 7, 8, 9, 10] rfl rfl rfl dX2_accept_146 (fun H_61 locs_61 hh_61 => ?_)
            clear hh_58
            refine lv_iconst (v := 1) hx hb dX2_accept_149 (by decide) ?_
            rw [hQ]
            exact W.zret (v := 1) hx hb hr (jb_nz (Or.inr rfl)) (fun t ht hW => ⟨⟨1, (il, sg, sv, br, 0), rfl, ⟨(Or.inr rfl), by first | omega | (refine ⟨?_, ?_, ?_, ?_, ?_, ?_, ?_, ?_, ?_⟩ <;> (first | omega | rfl | assumption | decide | exact Or.inl rfl | exact Or.inr rfl | (simp only; omega)))⟩, hh_61.rt (M1 := [(r0, 4, 9, .int il), (r0, 4, 8, .int sg), (r0, 4, 11, .int sv), (r0, 4, 4, .int br), (r0, 4, 7, .int 0)]) [7, 8, 9, 10, 3] rfl ht⟩, by rw [ht]; try exact hh_61.1.1, fun q h9 hq => by rw [ht]; try exact hh_61.1.2.1 q h9 hq⟩) hh_61.1.2.2 dX2_accept_150
          · skip
            have c_51' : z_40.toInt < told_50.toInt := jb_ge_n (rfl) (rfl) c_51
            refine lv_iconst (v := 0) hx hb dX2_accept_109 (by decide) ?_
            rw [hQ]
            exact W.zret (v := 0) hx hb hr (jb_nz (Or.inl rfl)) (fun t ht hW => ⟨⟨0, (il, sg, sv, br, z_40), rfl, ⟨(Or.inl rfl), by first | omega | (refine ⟨?_, ?_, ?_, ?_, ?_, ?_, ?_, ?_, ?_⟩ <;> (first | omega | rfl | assumption | decide | exact Or.inl rfl | exact Or.inr rfl | (simp only; omega)))⟩, hh_49.rt (M1 := [(r0, 4, 9, .int il), (r0, 4, 8, .int sg), (r0, 4, 11, .int sv), (r0, 4, 4, .int br), (r0, 4, 7, .int z_40)]) [5, 6, 7, 8, 2] rfl ht⟩, by rw [ht]; try exact hh_49.1.1, fun q h9 hq => by rw [ht]; try exact hh_49.1.2.1 q h9 hq⟩) hh_49.1.2.2 dX2_accept_110
      · skip
        have c_39' : fi.toInt < z_38.toInt := jb_ge_n (rfl) (rfl) c_39
        refine lv_aload_n hx hb dX2_accept_30 rfl (lv_at hl 0 rfl) ?_
        refine j7_read hx hb hown hK (C := RX2) (T := TX2) (N := 12) rfl hly_4_0 hlk_9 (hh_36.at 0 rfl) dX2_accept_31 ?_
        refine lv_aload_n hx hb dX2_accept_34 rfl (lv_at hl 0 rfl) ?_
        refine j7_read hx hb hown hK (C := RX2) (T := TX2) (N := 12) rfl hly_4_7 hlk_26 (hh_36.at 6 rfl) dX2_accept_35 ?_
        refine lv_iload_n hx hb dX2_accept_38 rfl (lv_at hl 1 rfl) ?_
        refine lv_i2b hx hb dX2_accept_39 rfl ?_
        refine lv_topi (fun z_62 ez_62 => ?_)
        refine j7_bast hx hb hK hh_36 hB hB100 0 rfl (by decide) (by decide) rfl rfl rfl hg_body_37 (x := fi.toInt) (rfl) (by omega) (fun _ _ => trivial) dX2_accept_40 (fun H_63 locs_63 hh_63 => ?_)
        clear hh_36
        refine lv_aload_n hx hb dX2_accept_41 rfl (lv_at hl 0 rfl) ?_
        refine lv_dup hx hb dX2_accept_42 rfl ?_
        refine j7_read hx hb hown hK (C := RX2) (T := TX2) (N := 12) rfl hly_4_7 hlk_26 (hh_63.at 6 rfl) dX2_accept_43 ?_
        refine lv_iconst (v := 1) hx hb dX2_accept_46 (by decide) ?_
        refine lv_iadd hx hb dX2_accept_47 ?_
        refine lv_topi (fun z_64 ez_64 => ?_)
        have hz_64 : z_64.toInt = fi.toInt + 1 := by rw [ez_64]; exact jb_iadd2 (rfl) ((by decide)) (by omega)
        refine j7_put hx hb hown hK hh_63 hB hAp hB4 (C := RX2) (T := TX2) (N := 12) rfl (by decide) hg_r0 (i := 7) (by decide) hly_4_7 rfl hlk_26 rfl (ty := .int) (v := .int z_64) (by decide +kernel) rfl rfl (⟨_, rfl, by omega, by omega⟩) rfl (L1 := [(r0, 4, 0, .ref body_37), (r0, 4, 5, .int place_4), (r0, 4, 9, .int il), (r0, 4, 8, .int sg), (r0, 4, 11, .int sv), (r0, 4, 4, .int br)]) [0, 1, 2, 3, 4, 5] rfl rfl rfl dX2_accept_48 (fun H_65 locs_65 hh_65 => ?_)
        clear hh_63
        refine lv_goto (tgt := 79) hx hb dX2_accept_51 (by decide) ?_
        refine lv_aload_n hx hb dX2_accept_79 rfl (lv_at hl 0 rfl) ?_
        refine lv_dup hx hb dX2_accept_80 rfl ?_
        obtain ⟨v_66, hv_66, hh_67⟩ := hh_65.pin (C := RX2) (T := TX2) (N := 12) hB4 rfl (by decide) hg_r0 (i := 2) (by decide) rfl
        clear hh_65
        obtain ⟨kept_68, rfl⟩ := hv_66
        refine j7_read hx hb hown hK (C := RX2) (T := TX2) (N := 12) rfl hly_4_2 hlk_29 (hh_67.at 0 rfl) dX2_accept_81 ?_
        refine lv_iconst (v := 1) hx hb dX2_accept_84 (by decide) ?_
        refine lv_iadd hx hb dX2_accept_85 ?_
        refine lv_topi (fun z_69 ez_69 => ?_)
        refine j7_put hx hb hown hK hh_67 hB hAp hB4 (C := RX2) (T := TX2) (N := 12) rfl (by decide) hg_r0 (i := 2) (by decide) hly_4_2 rfl hlk_29 rfl (ty := .int) (v := .int z_69) (by decide +kernel) rfl rfl (⟨_, rfl⟩) rfl (L1 := [(r0, 4, 7, .int z_64), (r0, 4, 0, .ref body_37), (r0, 4, 5, .int place_4), (r0, 4, 9, .int il), (r0, 4, 8, .int sg), (r0, 4, 11, .int sv), (r0, 4, 4, .int br)]) [1, 2, 3, 4, 5, 6, 7] rfl rfl rfl dX2_accept_86 (fun H_70 locs_70 hh_70 => ?_)
        clear hh_67
        refine lv_aload_n hx hb dX2_accept_89 rfl (lv_at hl 0 rfl) ?_
        refine j7_read hx hb hown hK (C := RX2) (T := TX2) (N := 12) rfl hly_4_5 hlk_15 (hh_70.at 3 rfl) dX2_accept_90 ?_
        refine lv_bipush (v := 6) hx hb dX2_accept_93 (by decide) ?_
        refine lv_icmp_ne (tgt := 109) hx hb dX2_accept_95 (by decide) (fun c_71 => ?_) (fun c_71 => ?_)
        · skip
          have c_71' : place_4.toInt ≠ 6 := jb_ne (rfl) ((by decide)) c_71
          refine lv_iconst (v := 0) hx hb dX2_accept_109 (by decide) ?_
          rw [hQ]
          exact W.zret (v := 0) hx hb hr (jb_nz (Or.inl rfl)) (fun t ht hW => ⟨⟨0, (il, sg, sv, br, z_64), rfl, ⟨(Or.inl rfl), by first | omega | (refine ⟨?_, ?_, ?_, ?_, ?_, ?_, ?_, ?_, ?_⟩ <;> (first | omega | rfl | assumption | decide | exact Or.inl rfl | exact Or.inr rfl | (simp only; omega)))⟩, hh_70.rt (M1 := [(r0, 4, 9, .int il), (r0, 4, 8, .int sg), (r0, 4, 11, .int sv), (r0, 4, 4, .int br), (r0, 4, 7, .int z_64)]) [4, 5, 6, 7, 1] rfl ht⟩, by rw [ht]; try exact hh_70.1.1, fun q h9 hq => by rw [ht]; try exact hh_70.1.2.1 q h9 hq⟩) hh_70.1.2.2 dX2_accept_110
        · skip
          have c_71' : place_4.toInt = 6 := jb_ne_n (rfl) ((by decide)) c_71
          refine lv_aload_n hx hb dX2_accept_98 rfl (lv_at hl 0 rfl) ?_
          refine j7_read hx hb hown hK (C := RX2) (T := TX2) (N := 12) rfl hly_4_7 hlk_26 (hh_70.at 1 rfl) dX2_accept_99 ?_
          refine lv_aload_n hx hb dX2_accept_102 rfl (lv_at hl 0 rfl) ?_
          obtain ⟨v_72, hv_72, hh_73⟩ := hh_70.pin (C := RX2) (T := TX2) (N := 12) hB4 rfl (by decide) hg_r0 (i := 6) (by decide) rfl
          clear hh_70
          obtain ⟨told_74, rfl, hlotold_74, hhitold_74⟩ := hv_72
          refine j7_read hx hb hown hK (C := RX2) (T := TX2) (N := 12) rfl hly_4_6 hlk_19 (hh_73.at 0 rfl) dX2_accept_103 ?_
          refine lv_icmp_ge (tgt := 111) hx hb dX2_accept_106 (by decide) (fun c_75 => ?_) (fun c_75 => ?_)
          · skip
            have c_75' : z_64.toInt ≥ told_74.toInt := jb_ge (rfl) (rfl) c_75
            refine lv_aload_n hx hb dX2_accept_111 rfl (lv_at hl 0 rfl) ?_
            refine lv_aload_n hx hb dX2_accept_112 rfl (lv_at hl 0 rfl) ?_
            refine j7_read hx hb hown hK (C := RX2) (T := TX2) (N := 12) rfl hly_4_6 hlk_19 (hh_73.at 0 rfl) dX2_accept_113 ?_
            refine j7_put hx hb hown hK hh_73 hB hAp hB4 (C := RX2) (T := TX2) (N := 12) rfl (by decide) hg_r0 (i := 1) (by decide) hly_4_1 rfl hlk_36 rfl (ty := .int) (v := .int told_74) (by decide +kernel) rfl rfl (⟨_, rfl, by omega, by omega⟩) rfl (L1 := [(r0, 4, 6, .int told_74), (r0, 4, 2, .int z_69), (r0, 4, 7, .int z_64), (r0, 4, 0, .ref body_37), (r0, 4, 5, .int place_4), (r0, 4, 9, .int il), (r0, 4, 8, .int sg), (r0, 4, 11, .int sv), (r0, 4, 4, .int br)]) [0, 1, 2, 3, 4, 5, 6, 7, 8] rfl rfl rfl dX2_accept_116 (fun H_76 locs_76 hh_76 => ?_)
            clear hh_73
            refine lv_aload_n hx hb dX2_accept_119 rfl (lv_at hl 0 rfl) ?_
            refine lv_iconst (v := (-1)) hx hb dX2_accept_120 (by decide) ?_
            refine j7_put hx hb hown hK hh_76 hB hAp hB4 (C := RX2) (T := TX2) (N := 12) rfl (by decide) hg_r0 (i := 6) (by decide) hly_4_6 rfl hlk_19 rfl (ty := .int) (v := .int (-1)) (by decide +kernel) rfl rfl (⟨_, rfl, by omega, by omega⟩) rfl (L1 := [(r0, 4, 1, .int told_74), (r0, 4, 2, .int z_69), (r0, 4, 7, .int z_64), (r0, 4, 0, .ref body_37), (r0, 4, 5, .int place_4), (r0, 4, 9, .int il), (r0, 4, 8, .int sg), (r0, 4, 11, .int sv), (r0, 4, 4, .int br)]) [0, 2, 3, 4, 5, 6, 7, 8, 9] rfl rfl rfl dX2_accept_121 (fun H_77 locs_77 hh_77 => ?_)
            clear hh_76
            refine lv_aload_n hx hb dX2_accept_124 rfl (lv_at hl 0 rfl) ?_
            refine lv_iconst (v := 0) hx hb dX2_accept_125 (by decide) ?_
            refine j7_put hx hb hown hK hh_77 hB hAp hB4 (C := RX2) (T := TX2) (N := 12) rfl (by decide) hg_r0 (i := 7) (by decide) hly_4_7 rfl hlk_26 rfl (ty := .int) (v := .int 0) (by decide +kernel) rfl rfl (⟨_, rfl, by omega, by omega⟩) rfl (L1 := [(r0, 4, 6, .int (-1)), (r0, 4, 1, .int told_74), (r0, 4, 2, .int z_69), (r0, 4, 0, .ref body_37), (r0, 4, 5, .int place_4), (r0, 4, 9, .int il), (r0, 4, 8, .int sg), (r0, 4, 11, .int sv), (r0, 4, 4, .int br)]) [0, 1, 2, 4, 5, 6, 7, 8, 9] rfl rfl rfl dX2_accept_126 (fun H_78 locs_78 hh_78 => ?_)
            clear hh_77
            refine lv_aload_n hx hb dX2_accept_129 rfl (lv_at hl 0 rfl) ?_
            refine lv_iconst (v := 0) hx hb dX2_accept_130 (by decide) ?_
            refine j7_put hx hb hown hK hh_78 hB hAp hB4 (C := RX2) (T := TX2) (N := 12) rfl (by decide) hg_r0 (i := 2) (by decide) hly_4_2 rfl hlk_29 rfl (ty := .int) (v := .int 0) (by decide +kernel) rfl rfl (⟨_, rfl⟩) rfl (L1 := [(r0, 4, 7, .int 0), (r0, 4, 6, .int (-1)), (r0, 4, 1, .int told_74), (r0, 4, 0, .ref body_37), (r0, 4, 5, .int place_4), (r0, 4, 9, .int il), (r0, 4, 8, .int sg), (r0, 4, 11, .int sv), (r0, 4, 4, .int br)]) [0, 1, 2, 4, 5, 6, 7, 8, 9] rfl rfl rfl dX2_accept_131 (fun H_79 locs_79 hh_79 => ?_)
            clear hh_78
            refine lv_aload_n hx hb dX2_accept_134 rfl (lv_at hl 0 rfl) ?_
            refine lv_iconst (v := 0) hx hb dX2_accept_135 (by decide) ?_
            refine j7_put hx hb hown hK hh_79 hB hAp hB4 (C := RX2) (T := TX2) (N := 12) rfl (by decide) hg_r0 (i := 5) (by decide) hly_4_5 rfl hlk_15 rfl (ty := .int) (v := .int 0) (by decide +kernel) rfl rfl (⟨_, rfl⟩) rfl (L1 := [(r0, 4, 2, .int 0), (r0, 4, 7, .int 0), (r0, 4, 6, .int (-1)), (r0, 4, 1, .int told_74), (r0, 4, 0, .ref body_37), (r0, 4, 9, .int il), (r0, 4, 8, .int sg), (r0, 4, 11, .int sv), (r0, 4, 4, .int br)]) [0, 1, 2, 3, 4, 6, 7, 8, 9] rfl rfl rfl dX2_accept_136 (fun H_80 locs_80 hh_80 => ?_)
            clear hh_79
            refine lv_aload_n hx hb dX2_accept_139 rfl (lv_at hl 0 rfl) ?_
            refine lv_dup hx hb dX2_accept_140 rfl ?_
            obtain ⟨v_81, hv_81, hh_82⟩ := hh_80.pin (C := RX2) (T := TX2) (N := 12) hB4 rfl (by decide) hg_r0 (i := 3) (by decide) rfl
            clear hh_80
            obtain ⟨messages_83, rfl⟩ := hv_81
            refine j7_read hx hb hown hK (C := RX2) (T := TX2) (N := 12) rfl hly_4_3 hlk_39 (hh_82.at 0 rfl) dX2_accept_141 ?_
            refine lv_iconst (v := 1) hx hb dX2_accept_144 (by decide) ?_
            refine lv_iadd hx hb dX2_accept_145 ?_
            refine lv_topi (fun z_84 ez_84 => ?_)
            refine j7_put hx hb hown hK hh_82 hB hAp hB4 (C := RX2) (T := TX2) (N := 12) rfl (by decide) hg_r0 (i := 3) (by decide) hly_4_3 rfl hlk_39 rfl (ty := .int) (v := .int z_84) (by decide +kernel) rfl rfl (⟨_, rfl⟩) rfl (L1 := [(r0, 4, 5, .int 0), (r0, 4, 2, .int 0), (r0, 4, 7, .int 0), (r0, 4, 6, .int (-1)), (r0, 4, 1, .int told_74), (r0, 4, 0, .ref body_37), (r0, 4, 9, .int il), (r0, 4, 8, .int sg), (r0, 4, 11, .int sv), (r0, 4, 4, .int br)]) [1, 2, 3, 4, 5, 6, 7, 8, 9, 10] rfl rfl rfl dX2_accept_146 (fun H_85 locs_85 hh_85 => ?_)
            clear hh_82
            refine lv_iconst (v := 1) hx hb dX2_accept_149 (by decide) ?_
            rw [hQ]
            exact W.zret (v := 1) hx hb hr (jb_nz (Or.inr rfl)) (fun t ht hW => ⟨⟨1, (il, sg, sv, br, 0), rfl, ⟨(Or.inr rfl), by first | omega | (refine ⟨?_, ?_, ?_, ?_, ?_, ?_, ?_, ?_, ?_⟩ <;> (first | omega | rfl | assumption | decide | exact Or.inl rfl | exact Or.inr rfl | (simp only; omega)))⟩, hh_85.rt (M1 := [(r0, 4, 9, .int il), (r0, 4, 8, .int sg), (r0, 4, 11, .int sv), (r0, 4, 4, .int br), (r0, 4, 7, .int 0)]) [7, 8, 9, 10, 3] rfl ht⟩, by rw [ht]; try exact hh_85.1.1, fun q h9 hq => by rw [ht]; try exact hh_85.1.2.1 q h9 hq⟩) hh_85.1.2.2 dX2_accept_150
          · skip
            have c_75' : z_64.toInt < told_74.toInt := jb_ge_n (rfl) (rfl) c_75
            refine lv_iconst (v := 0) hx hb dX2_accept_109 (by decide) ?_
            rw [hQ]
            exact W.zret (v := 0) hx hb hr (jb_nz (Or.inl rfl)) (fun t ht hW => ⟨⟨0, (il, sg, sv, br, z_64), rfl, ⟨(Or.inl rfl), by first | omega | (refine ⟨?_, ?_, ?_, ?_, ?_, ?_, ?_, ?_, ?_⟩ <;> (first | omega | rfl | assumption | decide | exact Or.inl rfl | exact Or.inr rfl | (simp only; omega)))⟩, hh_73.rt (M1 := [(r0, 4, 9, .int il), (r0, 4, 8, .int sg), (r0, 4, 11, .int sv), (r0, 4, 4, .int br), (r0, 4, 7, .int z_64)]) [5, 6, 7, 8, 2] rfl ht⟩, by rw [ht]; try exact hh_73.1.1, fun q h9 hq => by rw [ht]; try exact hh_73.1.2.1 q h9 hq⟩) hh_73.1.2.2 dX2_accept_110
  · skip
    have c_1' : br.toInt ≠ 0 := jb_eq_n (rfl) ((by decide)) c_1
    refine lv_iconst (v := 0) hx hb dX2_accept_7 (by decide) ?_
    rw [hQ]
    exact W.zret (v := 0) hx hb hr (jb_nz (Or.inl rfl)) (fun t ht hW => ⟨⟨0, (il, sg, sv, br, fi), rfl, ⟨(Or.inl rfl), by first | omega | (refine ⟨?_, ?_, ?_, ?_, ?_, ?_, ?_, ?_, ?_⟩ <;> (first | omega | rfl | assumption | decide | exact Or.inl rfl | exact Or.inr rfl | (simp only; omega)))⟩, hh.rt (M1 := [(r0, 4, 9, .int il), (r0, 4, 8, .int sg), (r0, 4, 11, .int sv), (r0, 4, 4, .int br), (r0, 4, 7, .int fi)]) [0, 1, 2, 3, 4] rfl ht⟩, by rw [ht]; try exact hh.1.1, fun q h9 hq => by rw [ht]; try exact hh.1.2.1 q h9 hq⟩) hh.1.2.2 dX2_accept_8
