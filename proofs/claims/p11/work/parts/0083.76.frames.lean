section
theorem dX2_accept_0 : decode cX2_accept 0 = .ok (.aload_n 0, 1) := by decide +kernel
theorem dX2_accept_1 : decode cX2_accept 1 = .ok (.getfield 22, 3) := by decide +kernel
theorem dX2_accept_4 : decode cX2_accept 4 = .ok (.ifCond .eq 5, 3) := by decide +kernel
theorem dX2_accept_7 : decode cX2_accept 7 = .ok (.iconst 0, 1) := by decide +kernel
theorem dX2_accept_8 : decode cX2_accept 8 = .ok (.ireturn, 1) := by decide +kernel
theorem dX2_accept_9 : decode cX2_accept 9 = .ok (.aload_n 0, 1) := by decide +kernel
theorem dX2_accept_10 : decode cX2_accept 10 = .ok (.getfield 15, 3) := by decide +kernel
theorem dX2_accept_13 : decode cX2_accept 13 = .ok (.bipush 6, 2) := by decide +kernel
theorem dX2_accept_15 : decode cX2_accept 15 = .ok (.if_icmp .ne 39, 3) := by decide +kernel
theorem dX2_accept_18 : decode cX2_accept 18 = .ok (.aload_n 0, 1) := by decide +kernel
theorem dX2_accept_19 : decode cX2_accept 19 = .ok (.getfield 26, 3) := by decide +kernel
theorem dX2_accept_22 : decode cX2_accept 22 = .ok (.aload_n 0, 1) := by decide +kernel
theorem dX2_accept_23 : decode cX2_accept 23 = .ok (.getfield 9, 3) := by decide +kernel
theorem dX2_accept_26 : decode cX2_accept 26 = .ok (.arraylength, 1) := by decide +kernel
theorem dX2_accept_27 : decode cX2_accept 27 = .ok (.if_icmp .ge 14, 3) := by decide +kernel
theorem dX2_accept_30 : decode cX2_accept 30 = .ok (.aload_n 0, 1) := by decide +kernel
theorem dX2_accept_31 : decode cX2_accept 31 = .ok (.getfield 9, 3) := by decide +kernel
theorem dX2_accept_34 : decode cX2_accept 34 = .ok (.aload_n 0, 1) := by decide +kernel
theorem dX2_accept_35 : decode cX2_accept 35 = .ok (.getfield 26, 3) := by decide +kernel
theorem dX2_accept_38 : decode cX2_accept 38 = .ok (.iload_n 1, 1) := by decide +kernel
theorem dX2_accept_39 : decode cX2_accept 39 = .ok (.i2b, 1) := by decide +kernel
theorem dX2_accept_40 : decode cX2_accept 40 = .ok (.bastore, 1) := by decide +kernel
theorem dX2_accept_41 : decode cX2_accept 41 = .ok (.aload_n 0, 1) := by decide +kernel
theorem dX2_accept_42 : decode cX2_accept 42 = .ok (.dup, 1) := by decide +kernel
theorem dX2_accept_43 : decode cX2_accept 43 = .ok (.getfield 26, 3) := by decide +kernel
theorem dX2_accept_46 : decode cX2_accept 46 = .ok (.iconst 1, 1) := by decide +kernel
theorem dX2_accept_47 : decode cX2_accept 47 = .ok (.iadd, 1) := by decide +kernel
theorem dX2_accept_48 : decode cX2_accept 48 = .ok (.putfield 26, 3) := by decide +kernel
theorem dX2_accept_51 : decode cX2_accept 51 = .ok (.goto 28, 3) := by decide +kernel
theorem dX2_accept_54 : decode cX2_accept 54 = .ok (.aload_n 0, 1) := by decide +kernel
theorem dX2_accept_55 : decode cX2_accept 55 = .ok (.getfield 29, 3) := by decide +kernel
theorem dX2_accept_58 : decode cX2_accept 58 = .ok (.sipush 200, 3) := by decide +kernel
theorem dX2_accept_61 : decode cX2_accept 61 = .ok (.if_icmp .ge 11, 3) := by decide +kernel
theorem dX2_accept_64 : decode cX2_accept 64 = .ok (.aload_n 0, 1) := by decide +kernel
theorem dX2_accept_65 : decode cX2_accept 65 = .ok (.iload_n 1, 1) := by decide +kernel
theorem dX2_accept_66 : decode cX2_accept 66 = .ok (.invokevirtual 32, 3) := by decide +kernel
theorem dX2_accept_69 : decode cX2_accept 69 = .ok (.ifCond .ne 10, 3) := by decide +kernel
theorem dX2_accept_72 : decode cX2_accept 72 = .ok (.aload_n 0, 1) := by decide +kernel
theorem dX2_accept_73 : decode cX2_accept 73 = .ok (.iconst 1, 1) := by decide +kernel
theorem dX2_accept_74 : decode cX2_accept 74 = .ok (.putfield 22, 3) := by decide +kernel
theorem dX2_accept_77 : decode cX2_accept 77 = .ok (.iconst 0, 1) := by decide +kernel
theorem dX2_accept_78 : decode cX2_accept 78 = .ok (.ireturn, 1) := by decide +kernel
theorem dX2_accept_79 : decode cX2_accept 79 = .ok (.aload_n 0, 1) := by decide +kernel
theorem dX2_accept_80 : decode cX2_accept 80 = .ok (.dup, 1) := by decide +kernel
theorem dX2_accept_81 : decode cX2_accept 81 = .ok (.getfield 29, 3) := by decide +kernel
theorem dX2_accept_84 : decode cX2_accept 84 = .ok (.iconst 1, 1) := by decide +kernel
theorem dX2_accept_85 : decode cX2_accept 85 = .ok (.iadd, 1) := by decide +kernel
theorem dX2_accept_86 : decode cX2_accept 86 = .ok (.putfield 29, 3) := by decide +kernel
theorem dX2_accept_89 : decode cX2_accept 89 = .ok (.aload_n 0, 1) := by decide +kernel
theorem dX2_accept_90 : decode cX2_accept 90 = .ok (.getfield 15, 3) := by decide +kernel
theorem dX2_accept_93 : decode cX2_accept 93 = .ok (.bipush 6, 2) := by decide +kernel
theorem dX2_accept_95 : decode cX2_accept 95 = .ok (.if_icmp .ne 14, 3) := by decide +kernel
theorem dX2_accept_98 : decode cX2_accept 98 = .ok (.aload_n 0, 1) := by decide +kernel
theorem dX2_accept_99 : decode cX2_accept 99 = .ok (.getfield 26, 3) := by decide +kernel
theorem dX2_accept_102 : decode cX2_accept 102 = .ok (.aload_n 0, 1) := by decide +kernel
theorem dX2_accept_103 : decode cX2_accept 103 = .ok (.getfield 19, 3) := by decide +kernel
theorem dX2_accept_106 : decode cX2_accept 106 = .ok (.if_icmp .ge 5, 3) := by decide +kernel
theorem dX2_accept_109 : decode cX2_accept 109 = .ok (.iconst 0, 1) := by decide +kernel
theorem dX2_accept_110 : decode cX2_accept 110 = .ok (.ireturn, 1) := by decide +kernel
theorem dX2_accept_111 : decode cX2_accept 111 = .ok (.aload_n 0, 1) := by decide +kernel
theorem dX2_accept_112 : decode cX2_accept 112 = .ok (.aload_n 0, 1) := by decide +kernel
theorem dX2_accept_113 : decode cX2_accept 113 = .ok (.getfield 19, 3) := by decide +kernel
theorem dX2_accept_116 : decode cX2_accept 116 = .ok (.putfield 36, 3) := by decide +kernel
theorem dX2_accept_119 : decode cX2_accept 119 = .ok (.aload_n 0, 1) := by decide +kernel
theorem dX2_accept_120 : decode cX2_accept 120 = .ok (.iconst (-1), 1) := by decide +kernel
theorem dX2_accept_121 : decode cX2_accept 121 = .ok (.putfield 19, 3) := by decide +kernel
theorem dX2_accept_124 : decode cX2_accept 124 = .ok (.aload_n 0, 1) := by decide +kernel
theorem dX2_accept_125 : decode cX2_accept 125 = .ok (.iconst 0, 1) := by decide +kernel
theorem dX2_accept_126 : decode cX2_accept 126 = .ok (.putfield 26, 3) := by decide +kernel
theorem dX2_accept_129 : decode cX2_accept 129 = .ok (.aload_n 0, 1) := by decide +kernel
theorem dX2_accept_130 : decode cX2_accept 130 = .ok (.iconst 0, 1) := by decide +kernel
theorem dX2_accept_131 : decode cX2_accept 131 = .ok (.putfield 29, 3) := by decide +kernel
theorem dX2_accept_134 : decode cX2_accept 134 = .ok (.aload_n 0, 1) := by decide +kernel
theorem dX2_accept_135 : decode cX2_accept 135 = .ok (.iconst 0, 1) := by decide +kernel
theorem dX2_accept_136 : decode cX2_accept 136 = .ok (.putfield 15, 3) := by decide +kernel
theorem dX2_accept_139 : decode cX2_accept 139 = .ok (.aload_n 0, 1) := by decide +kernel
theorem dX2_accept_140 : decode cX2_accept 140 = .ok (.dup, 1) := by decide +kernel
theorem dX2_accept_141 : decode cX2_accept 141 = .ok (.getfield 39, 3) := by decide +kernel
theorem dX2_accept_144 : decode cX2_accept 144 = .ok (.iconst 1, 1) := by decide +kernel
theorem dX2_accept_145 : decode cX2_accept 145 = .ok (.iadd, 1) := by decide +kernel
theorem dX2_accept_146 : decode cX2_accept 146 = .ok (.putfield 39, 3) := by decide +kernel
theorem dX2_accept_149 : decode cX2_accept 149 = .ok (.iconst 1, 1) := by decide +kernel
theorem dX2_accept_150 : decode cX2_accept 150 = .ok (.ireturn, 1) := by decide +kernel
theorem dX2_isHeader_0 : decode cX2_isHeader 0 = .ok (.aload_n 0, 1) := by decide +kernel
theorem dX2_isHeader_1 : decode cX2_isHeader 1 = .ok (.getfield 15, 3) := by decide +kernel
theorem dX2_isHeader_4 : decode cX2_isHeader 4 = .ok (.tableswitch 77 0 4 #[36, 42, 48, 54, 60], 36) := by decide +kernel
theorem dX2_isHeader_40 : decode cX2_isHeader 40 = .ok (.aload_n 0, 1) := by decide +kernel
theorem dX2_isHeader_41 : decode cX2_isHeader 41 = .ok (.iload_n 1, 1) := by decide +kernel
theorem dX2_isHeader_42 : decode cX2_isHeader 42 = .ok (.invokevirtual 42, 3) := by decide +kernel
theorem dX2_isHeader_45 : decode cX2_isHeader 45 = .ok (.ireturn, 1) := by decide +kernel
theorem dX2_isHeader_46 : decode cX2_isHeader 46 = .ok (.aload_n 0, 1) := by decide +kernel
theorem dX2_isHeader_47 : decode cX2_isHeader 47 = .ok (.iload_n 1, 1) := by decide +kernel
theorem dX2_isHeader_48 : decode cX2_isHeader 48 = .ok (.invokevirtual 45, 3) := by decide +kernel
theorem dX2_isHeader_51 : decode cX2_isHeader 51 = .ok (.ireturn, 1) := by decide +kernel
theorem dX2_isHeader_52 : decode cX2_isHeader 52 = .ok (.aload_n 0, 1) := by decide +kernel
theorem dX2_isHeader_53 : decode cX2_isHeader 53 = .ok (.iload_n 1, 1) := by decide +kernel
theorem dX2_isHeader_54 : decode cX2_isHeader 54 = .ok (.invokevirtual 48, 3) := by decide +kernel
theorem dX2_isHeader_57 : decode cX2_isHeader 57 = .ok (.ireturn, 1) := by decide +kernel
theorem dX2_isHeader_58 : decode cX2_isHeader 58 = .ok (.aload_n 0, 1) := by decide +kernel
theorem dX2_isHeader_59 : decode cX2_isHeader 59 = .ok (.iload_n 1, 1) := by decide +kernel
theorem dX2_isHeader_60 : decode cX2_isHeader 60 = .ok (.invokevirtual 51, 3) := by decide +kernel
theorem dX2_isHeader_63 : decode cX2_isHeader 63 = .ok (.ireturn, 1) := by decide +kernel
theorem dX2_isHeader_64 : decode cX2_isHeader 64 = .ok (.aload_n 0, 1) := by decide +kernel
theorem dX2_isHeader_65 : decode cX2_isHeader 65 = .ok (.iconst 0, 1) := by decide +kernel
theorem dX2_isHeader_66 : decode cX2_isHeader 66 = .ok (.putfield 15, 3) := by decide +kernel
theorem dX2_isHeader_69 : decode cX2_isHeader 69 = .ok (.iload_n 1, 1) := by decide +kernel
theorem dX2_isHeader_70 : decode cX2_isHeader 70 = .ok (.bipush 10, 2) := by decide +kernel
theorem dX2_isHeader_72 : decode cX2_isHeader 72 = .ok (.if_icmp .ne 7, 3) := by decide +kernel
theorem dX2_isHeader_75 : decode cX2_isHeader 75 = .ok (.iconst 1, 1) := by decide +kernel
theorem dX2_isHeader_76 : decode cX2_isHeader 76 = .ok (.goto 4, 3) := by decide +kernel
theorem dX2_isHeader_79 : decode cX2_isHeader 79 = .ok (.iconst 0, 1) := by decide +kernel
theorem dX2_isHeader_80 : decode cX2_isHeader 80 = .ok (.ireturn, 1) := by decide +kernel
theorem dX2_isHeader_81 : decode cX2_isHeader 81 = .ok (.aload_n 0, 1) := by decide +kernel
theorem dX2_isHeader_82 : decode cX2_isHeader 82 = .ok (.bipush 6, 2) := by decide +kernel
theorem dX2_isHeader_84 : decode cX2_isHeader 84 = .ok (.putfield 15, 3) := by decide +kernel
theorem dX2_isHeader_87 : decode cX2_isHeader 87 = .ok (.iload_n 1, 1) := by decide +kernel
theorem dX2_isHeader_88 : decode cX2_isHeader 88 = .ok (.bipush 10, 2) := by decide +kernel
theorem dX2_isHeader_90 : decode cX2_isHeader 90 = .ok (.if_icmp .ne 7, 3) := by decide +kernel
theorem dX2_isHeader_93 : decode cX2_isHeader 93 = .ok (.iconst 1, 1) := by decide +kernel
theorem dX2_isHeader_94 : decode cX2_isHeader 94 = .ok (.goto 4, 3) := by decide +kernel
theorem dX2_isHeader_97 : decode cX2_isHeader 97 = .ok (.iconst 0, 1) := by decide +kernel
theorem dX2_isHeader_98 : decode cX2_isHeader 98 = .ok (.ireturn, 1) := by decide +kernel
theorem dX2_isLineBegin_0 : decode cX2_isLineBegin 0 = .ok (.iload_n 1, 1) := by decide +kernel
theorem dX2_isLineBegin_1 : decode cX2_isLineBegin 1 = .ok (.bipush 13, 2) := by decide +kernel
theorem dX2_isLineBegin_3 : decode cX2_isLineBegin 3 = .ok (.if_icmp .ne 21, 3) := by decide +kernel
theorem dX2_isLineBegin_6 : decode cX2_isLineBegin 6 = .ok (.aload_n 0, 1) := by decide +kernel
theorem dX2_isLineBegin_7 : decode cX2_isLineBegin 7 = .ok (.iconst 5, 1) := by decide +kernel
theorem dX2_isLineBegin_8 : decode cX2_isLineBegin 8 = .ok (.putfield 15, 3) := by decide +kernel
theorem dX2_isLineBegin_11 : decode cX2_isLineBegin 11 = .ok (.aload_n 0, 1) := by decide +kernel
theorem dX2_isLineBegin_12 : decode cX2_isLineBegin 12 = .ok (.getfield 19, 3) := by decide +kernel
theorem dX2_isLineBegin_15 : decode cX2_isLineBegin 15 = .ok (.ifCond .lt 7, 3) := by decide +kernel
theorem dX2_isLineBegin_18 : decode cX2_isLineBegin 18 = .ok (.iconst 1, 1) := by decide +kernel
theorem dX2_isLineBegin_19 : decode cX2_isLineBegin 19 = .ok (.goto 4, 3) := by decide +kernel
theorem dX2_isLineBegin_22 : decode cX2_isLineBegin 22 = .ok (.iconst 0, 1) := by decide +kernel
theorem dX2_isLineBegin_23 : decode cX2_isLineBegin 23 = .ok (.ireturn, 1) := by decide +kernel
theorem dX2_isLineBegin_24 : decode cX2_isLineBegin 24 = .ok (.aload_n 0, 1) := by decide +kernel
theorem dX2_isLineBegin_25 : decode cX2_isLineBegin 25 = .ok (.iconst 1, 1) := by decide +kernel
theorem dX2_isLineBegin_26 : decode cX2_isLineBegin 26 = .ok (.putfield 15, 3) := by decide +kernel
theorem dX2_isLineBegin_29 : decode cX2_isLineBegin 29 = .ok (.aload_n 0, 1) := by decide +kernel
theorem dX2_isLineBegin_30 : decode cX2_isLineBegin 30 = .ok (.iconst 0, 1) := by decide +kernel
theorem dX2_isLineBegin_31 : decode cX2_isLineBegin 31 = .ok (.putfield 54, 3) := by decide +kernel
theorem dX2_isLineBegin_34 : decode cX2_isLineBegin 34 = .ok (.aload_n 0, 1) := by decide +kernel
theorem dX2_isLineBegin_35 : decode cX2_isLineBegin 35 = .ok (.iconst 1, 1) := by decide +kernel
theorem dX2_isLineBegin_36 : decode cX2_isLineBegin 36 = .ok (.putfield 57, 3) := by decide +kernel
theorem dX2_isLineBegin_39 : decode cX2_isLineBegin 39 = .ok (.iload_n 1, 1) := by decide +kernel
theorem dX2_isLineBegin_40 : decode cX2_isLineBegin 40 = .ok (.bipush 58, 2) := by decide +kernel
theorem dX2_isLineBegin_42 : decode cX2_isLineBegin 42 = .ok (.if_icmp .eq 15, 3) := by decide +kernel
theorem dX2_isLineBegin_45 : decode cX2_isLineBegin 45 = .ok (.aload_n 0, 1) := by decide +kernel
theorem dX2_isLineBegin_46 : decode cX2_isLineBegin 46 = .ok (.iload_n 1, 1) := by decide +kernel
theorem dX2_isLineBegin_47 : decode cX2_isLineBegin 47 = .ok (.invokevirtual 45, 3) := by decide +kernel
theorem dX2_isLineBegin_50 : decode cX2_isLineBegin 50 = .ok (.ifCond .eq 7, 3) := by decide +kernel
theorem dX2_isLineBegin_53 : decode cX2_isLineBegin 53 = .ok (.iconst 1, 1) := by decide +kernel
theorem dX2_isLineBegin_54 : decode cX2_isLineBegin 54 = .ok (.goto 4, 3) := by decide +kernel
theorem dX2_isLineBegin_57 : decode cX2_isLineBegin 57 = .ok (.iconst 0, 1) := by decide +kernel
theorem dX2_isLineBegin_58 : decode cX2_isLineBegin 58 = .ok (.ireturn, 1) := by decide +kernel
theorem dX2_isInName_0 : decode cX2_isInName 0 = .ok (.iload_n 1, 1) := by decide +kernel
theorem dX2_isInName_1 : decode cX2_isInName 1 = .ok (.bipush 58, 2) := by decide +kernel
theorem dX2_isInName_3 : decode cX2_isInName 3 = .ok (.if_icmp .ne 43, 3) := by decide +kernel
theorem dX2_isInName_6 : decode cX2_isInName 6 = .ok (.aload_n 0, 1) := by decide +kernel
theorem dX2_isInName_7 : decode cX2_isInName 7 = .ok (.aload_n 0, 1) := by decide +kernel
theorem dX2_isInName_8 : decode cX2_isInName 8 = .ok (.getfield 57, 3) := by decide +kernel
theorem dX2_isInName_11 : decode cX2_isInName 11 = .ok (.ifCond .eq 19, 3) := by decide +kernel
theorem dX2_isInName_14 : decode cX2_isInName 14 = .ok (.aload_n 0, 1) := by decide +kernel
theorem dX2_isInName_15 : decode cX2_isInName 15 = .ok (.getfield 54, 3) := by decide +kernel
theorem dX2_isInName_18 : decode cX2_isInName 18 = .ok (.ldc 60, 2) := by decide +kernel
theorem dX2_isInName_20 : decode cX2_isInName 20 = .ok (.invokevirtual 62, 3) := by decide +kernel
theorem dX2_isInName_23 : decode cX2_isInName 23 = .ok (.if_icmp .ne 7, 3) := by decide +kernel
theorem dX2_isInName_26 : decode cX2_isInName 26 = .ok (.iconst 3, 1) := by decide +kernel
theorem dX2_isInName_27 : decode cX2_isInName 27 = .ok (.goto 4, 3) := by decide +kernel
theorem dX2_isInName_30 : decode cX2_isInName 30 = .ok (.iconst 2, 1) := by decide +kernel
theorem dX2_isInName_31 : decode cX2_isInName 31 = .ok (.putfield 15, 3) := by decide +kernel
theorem dX2_isInName_34 : decode cX2_isInName 34 = .ok (.aload_n 0, 1) := by decide +kernel
theorem dX2_isInName_35 : decode cX2_isInName 35 = .ok (.iconst 0, 1) := by decide +kernel
theorem dX2_isInName_36 : decode cX2_isInName 36 = .ok (.putfield 67, 3) := by decide +kernel
theorem dX2_isInName_39 : decode cX2_isInName 39 = .ok (.aload_n 0, 1) := by decide +kernel
theorem dX2_isInName_40 : decode cX2_isInName 40 = .ok (.iconst 0, 1) := by decide +kernel
theorem dX2_isInName_41 : decode cX2_isInName 41 = .ok (.putfield 70, 3) := by decide +kernel
theorem dX2_isInName_44 : decode cX2_isInName 44 = .ok (.iconst 1, 1) := by decide +kernel
theorem dX2_isInName_45 : decode cX2_isInName 45 = .ok (.ireturn, 1) := by decide +kernel
theorem dX2_isInName_46 : decode cX2_isInName 46 = .ok (.iload_n 1, 1) := by decide +kernel
theorem dX2_isInName_47 : decode cX2_isInName 47 = .ok (.bipush 65, 2) := by decide +kernel
theorem dX2_isInName_49 : decode cX2_isInName 49 = .ok (.if_icmp .lt 16, 3) := by decide +kernel
theorem dX2_isInName_52 : decode cX2_isInName 52 = .ok (.iload_n 1, 1) := by decide +kernel
theorem dX2_isInName_53 : decode cX2_isInName 53 = .ok (.bipush 90, 2) := by decide +kernel
theorem dX2_isInName_55 : decode cX2_isInName 55 = .ok (.if_icmp .gt 10, 3) := by decide +kernel
theorem dX2_isInName_58 : decode cX2_isInName 58 = .ok (.iload_n 1, 1) := by decide +kernel
theorem dX2_isInName_59 : decode cX2_isInName 59 = .ok (.bipush 32, 2) := by decide +kernel
theorem dX2_isInName_61 : decode cX2_isInName 61 = .ok (.iadd, 1) := by decide +kernel
theorem dX2_isInName_62 : decode cX2_isInName 62 = .ok (.goto 4, 3) := by decide +kernel
theorem dX2_isInName_65 : decode cX2_isInName 65 = .ok (.iload_n 1, 1) := by decide +kernel
theorem dX2_isInName_66 : decode cX2_isInName 66 = .ok (.istore_n 2, 1) := by decide +kernel
theorem dX2_isInName_67 : decode cX2_isInName 67 = .ok (.aload_n 0, 1) := by decide +kernel
theorem dX2_isInName_68 : decode cX2_isInName 68 = .ok (.aload_n 0, 1) := by decide +kernel
theorem dX2_isInName_69 : decode cX2_isInName 69 = .ok (.getfield 57, 3) := by decide +kernel
theorem dX2_isInName_72 : decode cX2_isInName 72 = .ok (.ifCond .eq 32, 3) := by decide +kernel
theorem dX2_isInName_75 : decode cX2_isInName 75 = .ok (.aload_n 0, 1) := by decide +kernel
theorem dX2_isInName_76 : decode cX2_isInName 76 = .ok (.getfield 54, 3) := by decide +kernel
theorem dX2_isInName_79 : decode cX2_isInName 79 = .ok (.ldc 60, 2) := by decide +kernel
theorem dX2_isInName_81 : decode cX2_isInName 81 = .ok (.invokevirtual 62, 3) := by decide +kernel
theorem dX2_isInName_84 : decode cX2_isInName 84 = .ok (.if_icmp .ge 20, 3) := by decide +kernel
theorem dX2_isInName_87 : decode cX2_isInName 87 = .ok (.ldc 60, 2) := by decide +kernel
theorem dX2_isInName_89 : decode cX2_isInName 89 = .ok (.aload_n 0, 1) := by decide +kernel
theorem dX2_isInName_90 : decode cX2_isInName 90 = .ok (.getfield 54, 3) := by decide +kernel
theorem dX2_isInName_93 : decode cX2_isInName 93 = .ok (.invokevirtual 73, 3) := by decide +kernel
theorem dX2_isInName_96 : decode cX2_isInName 96 = .ok (.iload_n 2, 1) := by decide +kernel
theorem dX2_isInName_97 : decode cX2_isInName 97 = .ok (.if_icmp .ne 7, 3) := by decide +kernel
theorem dX2_isInName_100 : decode cX2_isInName 100 = .ok (.iconst 1, 1) := by decide +kernel
theorem dX2_isInName_101 : decode cX2_isInName 101 = .ok (.goto 4, 3) := by decide +kernel
theorem dX2_isInName_104 : decode cX2_isInName 104 = .ok (.iconst 0, 1) := by decide +kernel
theorem dX2_isInName_105 : decode cX2_isInName 105 = .ok (.putfield 57, 3) := by decide +kernel
theorem dX2_isInName_108 : decode cX2_isInName 108 = .ok (.aload_n 0, 1) := by decide +kernel
theorem dX2_isInName_109 : decode cX2_isInName 109 = .ok (.dup, 1) := by decide +kernel
theorem dX2_isInName_110 : decode cX2_isInName 110 = .ok (.getfield 54, 3) := by decide +kernel
theorem dX2_isInName_113 : decode cX2_isInName 113 = .ok (.iconst 1, 1) := by decide +kernel
theorem dX2_isInName_114 : decode cX2_isInName 114 = .ok (.iadd, 1) := by decide +kernel
theorem dX2_isInName_115 : decode cX2_isInName 115 = .ok (.putfield 54, 3) := by decide +kernel
theorem dX2_isInName_118 : decode cX2_isInName 118 = .ok (.iload_n 2, 1) := by decide +kernel
theorem dX2_isInName_119 : decode cX2_isInName 119 = .ok (.bipush 45, 2) := by decide +kernel
theorem dX2_isInName_121 : decode cX2_isInName 121 = .ok (.if_icmp .eq 15, 3) := by decide +kernel
theorem dX2_isInName_124 : decode cX2_isInName 124 = .ok (.iload_n 2, 1) := by decide +kernel
theorem dX2_isInName_125 : decode cX2_isInName 125 = .ok (.bipush 97, 2) := by decide +kernel
theorem dX2_isInName_127 : decode cX2_isInName 127 = .ok (.if_icmp .lt 13, 3) := by decide +kernel
theorem dX2_isInName_130 : decode cX2_isInName 130 = .ok (.iload_n 2, 1) := by decide +kernel
theorem dX2_isInName_131 : decode cX2_isInName 131 = .ok (.bipush 122, 2) := by decide +kernel
theorem dX2_isInName_133 : decode cX2_isInName 133 = .ok (.if_icmp .gt 7, 3) := by decide +kernel
theorem dX2_isInName_136 : decode cX2_isInName 136 = .ok (.iconst 1, 1) := by decide +kernel
theorem dX2_isInName_137 : decode cX2_isInName 137 = .ok (.goto 4, 3) := by decide +kernel
theorem dX2_isInName_140 : decode cX2_isInName 140 = .ok (.iconst 0, 1) := by decide +kernel
theorem dX2_isInName_141 : decode cX2_isInName 141 = .ok (.ireturn, 1) := by decide +kernel
theorem dX2_isInValue_0 : decode cX2_isInValue 0 = .ok (.iload_n 1, 1) := by decide +kernel
theorem dX2_isInValue_1 : decode cX2_isInValue 1 = .ok (.bipush 13, 2) := by decide +kernel
theorem dX2_isInValue_3 : decode cX2_isInValue 3 = .ok (.if_icmp .ne 10, 3) := by decide +kernel
theorem dX2_isInValue_6 : decode cX2_isInValue 6 = .ok (.aload_n 0, 1) := by decide +kernel
theorem dX2_isInValue_7 : decode cX2_isInValue 7 = .ok (.iconst 4, 1) := by decide +kernel
theorem dX2_isInValue_8 : decode cX2_isInValue 8 = .ok (.putfield 15, 3) := by decide +kernel
theorem dX2_isInValue_11 : decode cX2_isInValue 11 = .ok (.iconst 1, 1) := by decide +kernel
theorem dX2_isInValue_12 : decode cX2_isInValue 12 = .ok (.ireturn, 1) := by decide +kernel
theorem dX2_isInValue_13 : decode cX2_isInValue 13 = .ok (.iload_n 1, 1) := by decide +kernel
theorem dX2_isInValue_14 : decode cX2_isInValue 14 = .ok (.bipush 32, 2) := by decide +kernel
theorem dX2_isInValue_16 : decode cX2_isInValue 16 = .ok (.if_icmp .lt 13, 3) := by decide +kernel
theorem dX2_isInValue_19 : decode cX2_isInValue 19 = .ok (.iload_n 1, 1) := by decide +kernel
theorem dX2_isInValue_20 : decode cX2_isInValue 20 = .ok (.bipush 126, 2) := by decide +kernel
theorem dX2_isInValue_22 : decode cX2_isInValue 22 = .ok (.if_icmp .gt 7, 3) := by decide +kernel
theorem dX2_isInValue_25 : decode cX2_isInValue 25 = .ok (.iconst 1, 1) := by decide +kernel
theorem dX2_isInValue_26 : decode cX2_isInValue 26 = .ok (.goto 4, 3) := by decide +kernel
theorem dX2_isInValue_29 : decode cX2_isInValue 29 = .ok (.iconst 0, 1) := by decide +kernel
theorem dX2_isInValue_30 : decode cX2_isInValue 30 = .ok (.ireturn, 1) := by decide +kernel
theorem dX2_isInLength_0 : decode cX2_isInLength 0 = .ok (.iload_n 1, 1) := by decide +kernel
theorem dX2_isInLength_1 : decode cX2_isInLength 1 = .ok (.bipush 13, 2) := by decide +kernel
theorem dX2_isInLength_3 : decode cX2_isInLength 3 = .ok (.if_icmp .ne 29, 3) := by decide +kernel
theorem dX2_isInLength_6 : decode cX2_isInLength 6 = .ok (.aload_n 0, 1) := by decide +kernel
theorem dX2_isInLength_7 : decode cX2_isInLength 7 = .ok (.iconst 4, 1) := by decide +kernel
theorem dX2_isInLength_8 : decode cX2_isInLength 8 = .ok (.putfield 15, 3) := by decide +kernel
theorem dX2_isInLength_11 : decode cX2_isInLength 11 = .ok (.aload_n 0, 1) := by decide +kernel
theorem dX2_isInLength_12 : decode cX2_isInLength 12 = .ok (.aload_n 0, 1) := by decide +kernel
theorem dX2_isInLength_13 : decode cX2_isInLength 13 = .ok (.getfield 70, 3) := by decide +kernel
theorem dX2_isInLength_16 : decode cX2_isInLength 16 = .ok (.putfield 19, 3) := by decide +kernel
theorem dX2_isInLength_19 : decode cX2_isInLength 19 = .ok (.aload_n 0, 1) := by decide +kernel
theorem dX2_isInLength_20 : decode cX2_isInLength 20 = .ok (.getfield 67, 3) := by decide +kernel
theorem dX2_isInLength_23 : decode cX2_isInLength 23 = .ok (.ifCond .le 7, 3) := by decide +kernel
theorem dX2_isInLength_26 : decode cX2_isInLength 26 = .ok (.iconst 1, 1) := by decide +kernel
theorem dX2_isInLength_27 : decode cX2_isInLength 27 = .ok (.goto 4, 3) := by decide +kernel
theorem dX2_isInLength_30 : decode cX2_isInLength 30 = .ok (.iconst 0, 1) := by decide +kernel
theorem dX2_isInLength_31 : decode cX2_isInLength 31 = .ok (.ireturn, 1) := by decide +kernel
theorem dX2_isInLength_32 : decode cX2_isInLength 32 = .ok (.iload_n 1, 1) := by decide +kernel
theorem dX2_isInLength_33 : decode cX2_isInLength 33 = .ok (.bipush 48, 2) := by decide +kernel
theorem dX2_isInLength_35 : decode cX2_isInLength 35 = .ok (.if_icmp .lt 9, 3) := by decide +kernel
theorem dX2_isInLength_38 : decode cX2_isInLength 38 = .ok (.iload_n 1, 1) := by decide +kernel
theorem dX2_isInLength_39 : decode cX2_isInLength 39 = .ok (.bipush 57, 2) := by decide +kernel
theorem dX2_isInLength_41 : decode cX2_isInLength 41 = .ok (.if_icmp .le 22, 3) := by decide +kernel
theorem dX2_isInLength_44 : decode cX2_isInLength 44 = .ok (.iload_n 1, 1) := by decide +kernel
theorem dX2_isInLength_45 : decode cX2_isInLength 45 = .ok (.bipush 32, 2) := by decide +kernel
theorem dX2_isInLength_47 : decode cX2_isInLength 47 = .ok (.if_icmp .ne 14, 3) := by decide +kernel
theorem dX2_isInLength_50 : decode cX2_isInLength 50 = .ok (.aload_n 0, 1) := by decide +kernel
theorem dX2_isInLength_51 : decode cX2_isInLength 51 = .ok (.getfield 67, 3) := by decide +kernel
theorem dX2_isInLength_54 : decode cX2_isInLength 54 = .ok (.ifCond .ne 7, 3) := by decide +kernel
theorem dX2_isInLength_57 : decode cX2_isInLength 57 = .ok (.iconst 1, 1) := by decide +kernel
theorem dX2_isInLength_58 : decode cX2_isInLength 58 = .ok (.goto 4, 3) := by decide +kernel
theorem dX2_isInLength_61 : decode cX2_isInLength 61 = .ok (.iconst 0, 1) := by decide +kernel
theorem dX2_isInLength_62 : decode cX2_isInLength 62 = .ok (.ireturn, 1) := by decide +kernel
theorem dX2_isInLength_63 : decode cX2_isInLength 63 = .ok (.aload_n 0, 1) := by decide +kernel
theorem dX2_isInLength_64 : decode cX2_isInLength 64 = .ok (.dup, 1) := by decide +kernel
theorem dX2_isInLength_65 : decode cX2_isInLength 65 = .ok (.getfield 67, 3) := by decide +kernel
theorem dX2_isInLength_68 : decode cX2_isInLength 68 = .ok (.iconst 1, 1) := by decide +kernel
theorem dX2_isInLength_69 : decode cX2_isInLength 69 = .ok (.iadd, 1) := by decide +kernel
theorem dX2_isInLength_70 : decode cX2_isInLength 70 = .ok (.putfield 67, 3) := by decide +kernel
theorem dX2_isInLength_73 : decode cX2_isInLength 73 = .ok (.aload_n 0, 1) := by decide +kernel
theorem dX2_isInLength_74 : decode cX2_isInLength 74 = .ok (.aload_n 0, 1) := by decide +kernel
theorem dX2_isInLength_75 : decode cX2_isInLength 75 = .ok (.getfield 70, 3) := by decide +kernel
theorem dX2_isInLength_78 : decode cX2_isInLength 78 = .ok (.bipush 10, 2) := by decide +kernel
theorem dX2_isInLength_80 : decode cX2_isInLength 80 = .ok (.imul, 1) := by decide +kernel
theorem dX2_isInLength_81 : decode cX2_isInLength 81 = .ok (.iload_n 1, 1) := by decide +kernel
theorem dX2_isInLength_82 : decode cX2_isInLength 82 = .ok (.iadd, 1) := by decide +kernel
theorem dX2_isInLength_83 : decode cX2_isInLength 83 = .ok (.bipush 48, 2) := by decide +kernel
theorem dX2_isInLength_85 : decode cX2_isInLength 85 = .ok (.isub, 1) := by decide +kernel
theorem dX2_isInLength_86 : decode cX2_isInLength 86 = .ok (.putfield 70, 3) := by decide +kernel
theorem dX2_isInLength_89 : decode cX2_isInLength 89 = .ok (.aload_n 0, 1) := by decide +kernel
theorem dX2_isInLength_90 : decode cX2_isInLength 90 = .ok (.getfield 67, 3) := by decide +kernel
theorem dX2_isInLength_93 : decode cX2_isInLength 93 = .ok (.iconst 4, 1) := by decide +kernel
theorem dX2_isInLength_94 : decode cX2_isInLength 94 = .ok (.if_icmp .gt 17, 3) := by decide +kernel
theorem dX2_isInLength_97 : decode cX2_isInLength 97 = .ok (.aload_n 0, 1) := by decide +kernel
theorem dX2_isInLength_98 : decode cX2_isInLength 98 = .ok (.getfield 70, 3) := by decide +kernel
theorem dX2_isInLength_101 : decode cX2_isInLength 101 = .ok (.sipush 3000, 3) := by decide +kernel
theorem dX2_isInLength_104 : decode cX2_isInLength 104 = .ok (.if_icmp .gt 7, 3) := by decide +kernel
theorem dX2_isInLength_107 : decode cX2_isInLength 107 = .ok (.iconst 1, 1) := by decide +kernel
theorem dX2_isInLength_108 : decode cX2_isInLength 108 = .ok (.goto 4, 3) := by decide +kernel
theorem dX2_isInLength_111 : decode cX2_isInLength 111 = .ok (.iconst 0, 1) := by decide +kernel
theorem dX2_isInLength_112 : decode cX2_isInLength 112 = .ok (.ireturn, 1) := by decide +kernel
end
section
-- what a method writes of some objects only
theorem jn2 {a b c : Nat} (h : a ≠ b) (h1 : a ≠ c) : a ∉ [b, c] := fun q => by
  rcases List.mem_cons.mp q with e | e
  · exact h e
  · exact h1 (List.mem_singleton.mp e)
end
section
-- what reading JSON leaves: the strings and keys of the values stand apart among the units, and take bytes
theorem jDjn.sy {D : jC} {e e' : Nat} (h : jDjn D e e') : jDjn D e' e := by
  unfold jDjn at h ⊢
  omega
/-- the first and the size of a value that is no string are written -/
theorem jJr.fz {C D D' : jC} {pv pu qv qu h : Int} (g : jJr C pv pu D qv qu) (hp : pv ≤ h) (hk : jSo D.1 h ≠ 3) (ho : ∀ i : Int, 0 ≤ i → i < qv → i ≠ h → jE5 D D' i) (h1 : jSo D'.1 h = jSo D.1 h) (h2 : jSo D'.2.2.2.1 h = jSo D.2.2.2.1 h) (h3 : jSo D'.2.2.2.2 h = jSo D.2.2.2.2 h) : jJr C pv pu D' qv qu := by
  obtain ⟨g1, g2, g3, g4⟩ := g
  have kl : ∀ e : Nat, (e : Int) < 2 * qv → jln D' e = jln D e ∧ jlo D' e = jlo D e := fun e he => by
    by_cases q : ((e / 2 : Nat) : Int) = h
    · unfold jln jlo
      rw [q, h1, h3, h2]
      by_cases q2 : e % 2 = 0
      · rw [if_pos q2, if_pos q2, if_pos q2, if_pos q2, if_neg hk, if_neg hk, if_neg hk, if_neg hk]
        exact ⟨rfl, rfl⟩
      · rw [if_neg q2, if_neg q2, if_neg q2, if_neg q2]
        exact ⟨rfl, rfl⟩
    · have := ho _ (by omega) (by omega) q
      exact ⟨this.ln, this.lo⟩
  refine ⟨g1, fun i a b => ?_, fun e a b => ?_, fun e e' a b c d ne => ?_⟩
  · obtain ⟨x1, x2, x3, x4, x5⟩ := g2 i a b
    obtain ⟨y1, y2, y3, y4, y5⟩ := ho i a (by omega) (by omega)
    exact ⟨y1.trans x1, y2.trans x2, y3.trans x3, y4.trans x4, y5.trans x5⟩
  · have x := kl e b
    have y := g3 e a b
    omega
  · have x := kl e b
    have x' := kl e' d
    have y := g4 e e' a b c d ne
    unfold jDjn at y ⊢
    omega
/-- the key of a value that was read behind it -/
theorem jJr.key {C D E E' : jC} {pv pu wv wu u1 qv qu r : Int} (h : jJr C pv pu D wv wu) (hu : wu ≤ u1) (g : jJr D wv u1 E qv qu) (hr : wv ≤ r) (ho : ∀ i : Int, 0 ≤ i → i < qv → i ≠ r → jE5 E E' i) (h1 : jSo E'.1 r = jSo E.1 r) (h2 : jSo E'.2.1 r = jSo E.2.1 r) (h3 : jSo E'.2.2.1 r = jSo E.2.2.1 r) (h4 : jSo E'.2.2.2.1 r = wu) (h5 : jSo E'.2.2.2.2 r = u1 - wu) : jJr C pv pu E' qv qu := by
  have t := (h.up hu).tr g
  obtain ⟨t1, t2, t3, t4⟩ := t
  obtain ⟨a1, a2, a3, a4⟩ := h
  obtain ⟨b1, b2, b3, b4⟩ := g
  have kl : ∀ e : Nat, (e : Int) < 2 * qv → (e : Int) ≠ 2 * r + 1 → jln E' e = jln E e ∧ jlo E' e = jlo E e := fun e he hn => by
    by_cases q : ((e / 2 : Nat) : Int) = r
    · have q2 : e % 2 = 0 := by omega
      unfold jln jlo
      rw [q, h1, h2, h3, if_pos q2, if_pos q2, if_pos q2, if_pos q2]
      exact ⟨rfl, rfl⟩
    · have := ho _ (by omega) (by omega) q
      exact ⟨this.ln, this.lo⟩
  have kr : ∀ e : Nat, (e : Int) = 2 * r + 1 → jln E' e = u1 - wu ∧ jlo E' e = wu := fun e he => by
    unfold jln jlo
    rw [if_neg (by omega), if_neg (by omega), show ((e / 2 : Nat) : Int) = r by omega]
    exact ⟨h5, h4⟩
  have kd : ∀ e e' : Nat, (e : Int) = 2 * r + 1 → 2 * pv ≤ e' → (e' : Int) < 2 * qv → e ≠ e' → jDjn E' e e' := fun e e' he c d ne => by
    obtain ⟨x1, x2⟩ := kr e he
    obtain ⟨y1, y2⟩ := kl e' d (by omega)
    unfold jDjn
    by_cases q : (e' : Int) < 2 * wv
    · have z := b2 ((e' / 2 : Nat) : Int) (by omega) (by omega)
      have w := a3 e' c q
      rw [y1, y2, z.ln, z.lo]
      omega
    · have w := b3 e' (by omega) d
      omega
  refine ⟨t1, fun i a b => ?_, fun e a b => ?_, fun e e' a b c d ne => ?_⟩
  · obtain ⟨x1, x2, x3, x4, x5⟩ := t2 i a b
    obtain ⟨y1, y2, y3, y4, y5⟩ := ho i a (by omega) (by omega)
    exact ⟨y1.trans x1, y2.trans x2, y3.trans x3, y4.trans x4, y5.trans x5⟩
  · by_cases q : (e : Int) = 2 * r + 1
    · obtain ⟨x1, x2⟩ := kr e q
      omega
    · obtain ⟨x1, x2⟩ := kl e b q
      have := t3 e a b
      omega
  · by_cases q : (e : Int) = 2 * r + 1
    · exact kd e e' q c d ne
    · by_cases q' : (e' : Int) = 2 * r + 1
      · exact (kd e' e q' a b (fun x => ne x.symm)).sy
      · obtain ⟨x1, x2⟩ := kl e b q
        obtain ⟨y1, y2⟩ := kl e' d q'
        have := t4 e e' a b c d ne
        unfold jDjn at this ⊢
        omega
theorem jHv.add {C D : jC} {pv pu pt wv wu wt l x wu' wt' x' : Int} (h : jHv C pv pu pt D wv wu wt l x) (ha : wu' - wu + x' - x ≤ wt' - wt) : jHv C pv pu pt D wv wu' wt' l x' := by
  rcases h with h | ⟨h1, h2, h3, h4, h5⟩
  · exact Or.inl h
  · exact Or.inr ⟨h1, h2, h3, h4, by omega⟩
theorem jHs {C D E : jC} {k1 i1 z1 a1 s1 : Nat → Int32} {pv pu pt wv w0 u1 t2 l x qv qu qt r t : Int} (h1 : jJr C pv pu D wv w0) (h2 : jHv C pv pu pt D wv u1 t2 l x) (hu : w0 ≤ u1) (hx : x = 3 ∨ (x = 0 ∧ u1 = w0)) (g : jVr D wv u1 t2 E qv qu qt r) (hr : 0 ≤ r) (hl : 0 ≤ l) (hq : qv ≤ 1502)
    (hk : k1 = E.1) (ha : jSo a1 r = w0) (hao : ∀ j, j < 1502 → j ≠ r.toNat → a1 j = E.2.2.2.1 j) (hs : jSo s1 r = u1 - w0) (hso : ∀ j, j < 1502 → j ≠ r.toNat → s1 j = E.2.2.2.2 j)
    (hio : ∀ j, j < 1502 → j ≠ l.toNat → i1 j = E.2.1 j) (hzo : ∀ j, j < 1502 → j ≠ l.toNat → z1 j = E.2.2.1 j) (ht : qt + 1 ≤ t) : jJr C pv pu (k1, i1, z1, a1, s1) qv qu ∧ jHv C pv pu pt (k1, i1, z1, a1, s1) qv qu t l 0 := by
  obtain ⟨g1, g2⟩ := g
  rcases g2 with g2 | ⟨r1, r2, r3, r4⟩
  · omega
  rcases h2 with h2 | ⟨b1, b2, b3, b4, b5⟩
  · omega
  rw [b1] at hio hzo
  have p0 := h1.1
  have w1 := g1.1
  have k5 := g1.2.1 pv (by omega) b2
  have m1 : jJr C pv pu (E.1, E.2.1, E.2.2.1, a1, s1) qv qu := jJr.key h1 hu g1 r1 (fun i i0 i1 ne => ⟨rfl, rfl, rfl, jst hao i i0 (by omega) hr ne, jst hso i i0 (by omega) hr ne⟩) rfl rfl rfl ha hs
  have m2 : jJr C pv pu (k1, i1, z1, a1, s1) qv qu := jJr.fz (h := pv) m1 (Int.le_refl _) (by show jSo E.1 pv ≠ 3; rw [k5.1]; exact b3) (fun i i0 _ ne => ⟨by show jSo k1 i = jSo E.1 i; rw [hk], jst hio i i0 (by omega) (by omega) ne, jst hzo i i0 (by omega) (by omega) ne, rfl, rfl⟩) (by show jSo k1 pv = jSo E.1 pv; rw [hk]) rfl rfl
  refine ⟨m2, Or.inr ⟨b1, by omega, by show jSo k1 pv ≠ 3; rw [hk, k5.1]; exact b3, ?_, ?_⟩⟩
  · show jSo s1 pv = 0
    rw [jst hso pv (by omega) (by omega) hr (by omega), k5.2.2.2.2]
    exact b4
  · have s2 := jSb.put (f := E.2.2.2.2) (g := s1) r.toNat 1502 hso (by have := r3; unfold jSo at this; exact this) qv.toNat (by omega)
    have s3 : (s1 r.toNat).toInt = u1 - w0 := by have := hs; unfold jSo at this; exact this
    rw [s3] at s2
    show qu - pu + 0 + (jSb s1 qv.toNat - jSb C.2.2.2.2 pv.toNat) ≤ t - pt + 1
    rcases hx with hx | ⟨hx, hy⟩
    · by_cases q : 1 ≤ u1 - w0 ∧ r.toNat < qv.toNat
      · rw [if_pos q] at s2; omega
      · rw [if_neg q] at s2; omega
    · rw [if_neg (by omega : ¬ (1 ≤ u1 - w0 ∧ r.toNat < qv.toNat))] at s2
      omega
theorem jVr.base {C D : jC} {a b pt qv qu qt r : Int} (h : jVr C a b pt D qv qu qt r) (ha : a = 0) (hb : b = 0) : jJr C 0 0 D qv qu := by
  subst ha hb
  exact h.1
/-- a string of the values -/
theorem jJr.p {C D : jC} {qv qu : Int} (h : jJr C 0 0 D qv qu) (hq : qu ≤ 3000) : jJq D.1 D.2.1 D.2.2.1 qv := fun i h0 h1 h3 => by
  have := h.2.2.1 (2 * i.toNat) (by omega) (by omega)
  have e : (((2 * i.toNat) / 2 : Nat) : Int) = i := by omega
  have n1 : jln D (2 * i.toNat) = jSo D.2.2.1 i := by
    unfold jln
    rw [if_pos (by omega), e, if_pos h3]
  have n2 : jlo D (2 * i.toNat) = jSo D.2.1 i := by
    unfold jlo
    rw [if_pos (by omega), e, if_pos h3]
  omega
theorem jJr.u {C D : jC} {qv qu : Int} (h : jJr C 0 0 D qv qu) : jJu D.1 D.2.2.1 qv qu := fun i h0 h1 h3 => by
  have := h.2.2.1 (2 * i.toNat) (by omega) (by omega)
  have e : (((2 * i.toNat) / 2 : Nat) : Int) = i := by omega
  have n1 : jln D (2 * i.toNat) = jSo D.2.2.1 i := by
    unfold jln
    rw [if_pos (by omega), e, if_pos h3]
  omega
end
