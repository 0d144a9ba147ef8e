section
theorem jWr_18 : ∀ w ∈ wsL_law_r18, w ∈ jWl := fun w h => jT18 w (List.mem_append_left _ h)
end
section
theorem dX2_accept_0 : decode cX2_accept 0 = .ok (.aload_n 0, 1) := by decide +kernel
theorem dX2_accept_1 : decode cX2_accept 1 = .ok (.getfield 22, 3) := by decide +kernel
theorem dX2_accept_4 : decode cX2_accept 4 = .ok (.ifCond .eq 5, 3) := by decide +kernel
theorem dX2_accept_9 : decode cX2_accept 9 = .ok (.aload_n 0, 1) := by decide +kernel
theorem dX2_accept_10 : decode cX2_accept 10 = .ok (.getfield 15, 3) := by decide +kernel
theorem dX2_accept_13 : decode cX2_accept 13 = .ok (.bipush 6, 2) := by decide +kernel
theorem dX2_accept_15 : decode cX2_accept 15 = .ok (.if_icmp .ne 39, 3) := by decide +kernel
theorem dX2_accept_18 : decode cX2_accept 18 = .ok (.aload_n 0, 1) := by decide +kernel
theorem dX2_accept_19 : decode cX2_accept 19 = .ok (.getfield 26, 3) := by decide +kernel
theorem dX2_accept_22 : decode cX2_accept 22 = .ok (.aload_n 0, 1) := by decide +kernel
theorem dX2_accept_23 : decode cX2_accept 23 = .ok (.getfield 9, 3) := by decide +kernel
theorem dX2_accept_26 : decode cX2_accept 26 = .ok (.arraylength, 1) := by decide +kernel
theorem dX2_accept_27 : decode cX2_accept 27 = .ok (.if_icmp .ge 14, 3) := by decide +kernel
theorem dX2_accept_30 : decode cX2_accept 30 = .ok (.aload_n 0, 1) := by decide +kernel
theorem dX2_accept_31 : decode cX2_accept 31 = .ok (.getfield 9, 3) := by decide +kernel
theorem dX2_accept_34 : decode cX2_accept 34 = .ok (.aload_n 0, 1) := by decide +kernel
theorem dX2_accept_35 : decode cX2_accept 35 = .ok (.getfield 26, 3) := by decide +kernel
theorem dX2_accept_38 : decode cX2_accept 38 = .ok (.iload_n 1, 1) := by decide +kernel
theorem dX2_accept_39 : decode cX2_accept 39 = .ok (.i2b, 1) := by decide +kernel
theorem dX2_accept_40 : decode cX2_accept 40 = .ok (.bastore, 1) := by decide +kernel
theorem dX2_accept_41 : decode cX2_accept 41 = .ok (.aload_n 0, 1) := by decide +kernel
theorem dX2_accept_42 : decode cX2_accept 42 = .ok (.dup, 1) := by decide +kernel
theorem dX2_accept_43 : decode cX2_accept 43 = .ok (.getfield 26, 3) := by decide +kernel
theorem dX2_accept_46 : decode cX2_accept 46 = .ok (.iconst 1, 1) := by decide +kernel
theorem dX2_accept_47 : decode cX2_accept 47 = .ok (.iadd, 1) := by decide +kernel
theorem dX2_accept_48 : decode cX2_accept 48 = .ok (.putfield 26, 3) := by decide +kernel
theorem dX2_accept_51 : decode cX2_accept 51 = .ok (.goto 28, 3) := by decide +kernel
theorem dX2_accept_54 : decode cX2_accept 54 = .ok (.aload_n 0, 1) := by decide +kernel
theorem dX2_accept_55 : decode cX2_accept 55 = .ok (.getfield 29, 3) := by decide +kernel
theorem dX2_accept_58 : decode cX2_accept 58 = .ok (.sipush 200, 3) := by decide +kernel
theorem dX2_accept_61 : decode cX2_accept 61 = .ok (.if_icmp .ge 11, 3) := by decide +kernel
theorem dX2_accept_64 : decode cX2_accept 64 = .ok (.aload_n 0, 1) := by decide +kernel
theorem dX2_accept_65 : decode cX2_accept 65 = .ok (.iload_n 1, 1) := by decide +kernel
theorem dX2_accept_66 : decode cX2_accept 66 = .ok (.invokevirtual 32, 3) := by decide +kernel
theorem dX2_accept_69 : decode cX2_accept 69 = .ok (.ifCond .ne 10, 3) := by decide +kernel
theorem dX2_accept_72 : decode cX2_accept 72 = .ok (.aload_n 0, 1) := by decide +kernel
theorem dX2_accept_73 : decode cX2_accept 73 = .ok (.iconst 1, 1) := by decide +kernel
theorem dX2_accept_74 : decode cX2_accept 74 = .ok (.putfield 22, 3) := by decide +kernel
theorem dX2_accept_77 : decode cX2_accept 77 = .ok (.iconst 0, 1) := by decide +kernel
theorem dX2_accept_78 : decode cX2_accept 78 = .ok (.ireturn, 1) := by decide +kernel
theorem dX2_accept_79 : decode cX2_accept 79 = .ok (.aload_n 0, 1) := by decide +kernel
theorem dX2_accept_80 : decode cX2_accept 80 = .ok (.dup, 1) := by decide +kernel
theorem dX2_accept_81 : decode cX2_accept 81 = .ok (.getfield 29, 3) := by decide +kernel
theorem dX2_accept_84 : decode cX2_accept 84 = .ok (.iconst 1, 1) := by decide +kernel
theorem dX2_accept_85 : decode cX2_accept 85 = .ok (.iadd, 1) := by decide +kernel
theorem dX2_accept_86 : decode cX2_accept 86 = .ok (.putfield 29, 3) := by decide +kernel
theorem dX2_accept_89 : decode cX2_accept 89 = .ok (.aload_n 0, 1) := by decide +kernel
theorem dX2_accept_90 : decode cX2_accept 90 = .ok (.getfield 15, 3) := by decide +kernel
theorem dX2_accept_93 : decode cX2_accept 93 = .ok (.bipush 6, 2) := by decide +kernel
theorem dX2_accept_95 : decode cX2_accept 95 = .ok (.if_icmp .ne 14, 3) := by decide +kernel
theorem dX2_accept_98 : decode cX2_accept 98 = .ok (.aload_n 0, 1) := by decide +kernel
theorem dX2_accept_99 : decode cX2_accept 99 = .ok (.getfield 26, 3) := by decide +kernel
theorem dX2_accept_102 : decode cX2_accept 102 = .ok (.aload_n 0, 1) := by decide +kernel
theorem dX2_accept_103 : decode cX2_accept 103 = .ok (.getfield 19, 3) := by decide +kernel
theorem dX2_accept_106 : decode cX2_accept 106 = .ok (.if_icmp .ge 5, 3) := by decide +kernel
theorem dX2_accept_109 : decode cX2_accept 109 = .ok (.iconst 0, 1) := by decide +kernel
theorem dX2_accept_110 : decode cX2_accept 110 = .ok (.ireturn, 1) := by decide +kernel
theorem dX2_accept_111 : decode cX2_accept 111 = .ok (.aload_n 0, 1) := by decide +kernel
theorem dX2_accept_112 : decode cX2_accept 112 = .ok (.aload_n 0, 1) := by decide +kernel
theorem dX2_accept_113 : decode cX2_accept 113 = .ok (.getfield 19, 3) := by decide +kernel
theorem dX2_accept_116 : decode cX2_accept 116 = .ok (.putfield 36, 3) := by decide +kernel
theorem dX2_accept_119 : decode cX2_accept 119 = .ok (.aload_n 0, 1) := by decide +kernel
theorem dX2_accept_120 : decode cX2_accept 120 = .ok (.iconst (-1), 1) := by decide +kernel
theorem dX2_accept_121 : decode cX2_accept 121 = .ok (.putfield 19, 3) := by decide +kernel
theorem dX2_accept_124 : decode cX2_accept 124 = .ok (.aload_n 0, 1) := by decide +kernel
theorem dX2_accept_125 : decode cX2_accept 125 = .ok (.iconst 0, 1) := by decide +kernel
theorem dX2_accept_126 : decode cX2_accept 126 = .ok (.putfield 26, 3) := by decide +kernel
theorem dX2_accept_129 : decode cX2_accept 129 = .ok (.aload_n 0, 1) := by decide +kernel
theorem dX2_accept_130 : decode cX2_accept 130 = .ok (.iconst 0, 1) := by decide +kernel
theorem dX2_accept_131 : decode cX2_accept 131 = .ok (.putfield 29, 3) := by decide +kernel
theorem dX2_accept_134 : decode cX2_accept 134 = .ok (.aload_n 0, 1) := by decide +kernel
theorem dX2_accept_135 : decode cX2_accept 135 = .ok (.iconst 0, 1) := by decide +kernel
theorem dX2_accept_136 : decode cX2_accept 136 = .ok (.putfield 15, 3) := by decide +kernel
theorem dX2_accept_139 : decode cX2_accept 139 = .ok (.aload_n 0, 1) := by decide +kernel
theorem dX2_accept_140 : decode cX2_accept 140 = .ok (.dup, 1) := by decide +kernel
theorem dX2_accept_141 : decode cX2_accept 141 = .ok (.getfield 39, 3) := by decide +kernel
theorem dX2_accept_144 : decode cX2_accept 144 = .ok (.iconst 1, 1) := by decide +kernel
theorem dX2_accept_145 : decode cX2_accept 145 = .ok (.iadd, 1) := by decide +kernel
theorem dX2_accept_146 : decode cX2_accept 146 = .ok (.putfield 39, 3) := by decide +kernel
theorem dX2_accept_149 : decode cX2_accept 149 = .ok (.iconst 1, 1) := by decide +kernel
theorem dX2_accept_150 : decode cX2_accept 150 = .ok (.ireturn, 1) := by decide +kernel
theorem dX2_isHeader_0 : decode cX2_isHeader 0 = .ok (.aload_n 0, 1) := by decide +kernel
theorem dX2_isHeader_1 : decode cX2_isHeader 1 = .ok (.getfield 15, 3) := by decide +kernel
theorem dX2_isHeader_4 : decode cX2_isHeader 4 = .ok (.tableswitch 77 0 4 #[36, 42, 48, 54, 60], 36) := by decide +kernel
theorem dX2_isHeader_40 : decode cX2_isHeader 40 = .ok (.aload_n 0, 1) := by decide +kernel
theorem dX2_isHeader_41 : decode cX2_isHeader 41 = .ok (.iload_n 1, 1) := by decide +kernel
theorem dX2_isHeader_42 : decode cX2_isHeader 42 = .ok (.invokevirtual 42, 3) := by decide +kernel
theorem dX2_isHeader_45 : decode cX2_isHeader 45 = .ok (.ireturn, 1) := by decide +kernel
theorem dX2_isHeader_46 : decode cX2_isHeader 46 = .ok (.aload_n 0, 1) := by decide +kernel
theorem dX2_isHeader_47 : decode cX2_isHeader 47 = .ok (.iload_n 1, 1) := by decide +kernel
theorem dX2_isHeader_48 : decode cX2_isHeader 48 = .ok (.invokevirtual 45, 3) := by decide +kernel
theorem dX2_isHeader_51 : decode cX2_isHeader 51 = .ok (.ireturn, 1) := by decide +kernel
theorem dX2_isHeader_52 : decode cX2_isHeader 52 = .ok (.aload_n 0, 1) := by decide +kernel
theorem dX2_isHeader_53 : decode cX2_isHeader 53 = .ok (.iload_n 1, 1) := by decide +kernel
theorem dX2_isHeader_54 : decode cX2_isHeader 54 = .ok (.invokevirtual 48, 3) := by decide +kernel
theorem dX2_isHeader_57 : decode cX2_isHeader 57 = .ok (.ireturn, 1) := by decide +kernel
theorem dX2_isHeader_58 : decode cX2_isHeader 58 = .ok (.aload_n 0, 1) := by decide +kernel
theorem dX2_isHeader_59 : decode cX2_isHeader 59 = .ok (.iload_n 1, 1) := by decide +kernel
theorem dX2_isHeader_60 : decode cX2_isHeader 60 = .ok (.invokevirtual 51, 3) := by decide +kernel
theorem dX2_isHeader_63 : decode cX2_isHeader 63 = .ok (.ireturn, 1) := by decide +kernel
theorem dX2_isHeader_64 : decode cX2_isHeader 64 = .ok (.aload_n 0, 1) := by decide +kernel
theorem dX2_isHeader_65 : decode cX2_isHeader 65 = .ok (.iconst 0, 1) := by decide +kernel
theorem dX2_isHeader_66 : decode cX2_isHeader 66 = .ok (.putfield 15, 3) := by decide +kernel
theorem dX2_isHeader_69 : decode cX2_isHeader 69 = .ok (.iload_n 1, 1) := by decide +kernel
theorem dX2_isHeader_70 : decode cX2_isHeader 70 = .ok (.bipush 10, 2) := by decide +kernel
theorem dX2_isHeader_72 : decode cX2_isHeader 72 = .ok (.if_icmp .ne 7, 3) := by decide +kernel
theorem dX2_isHeader_75 : decode cX2_isHeader 75 = .ok (.iconst 1, 1) := by decide +kernel
theorem dX2_isHeader_76 : decode cX2_isHeader 76 = .ok (.goto 4, 3) := by decide +kernel
theorem dX2_isHeader_79 : decode cX2_isHeader 79 = .ok (.iconst 0, 1) := by decide +kernel
theorem dX2_isHeader_80 : decode cX2_isHeader 80 = .ok (.ireturn, 1) := by decide +kernel
theorem dX2_isHeader_81 : decode cX2_isHeader 81 = .ok (.aload_n 0, 1) := by decide +kernel
theorem dX2_isHeader_82 : decode cX2_isHeader 82 = .ok (.bipush 6, 2) := by decide +kernel
theorem dX2_isHeader_84 : decode cX2_isHeader 84 = .ok (.putfield 15, 3) := by decide +kernel
theorem dX2_isHeader_87 : decode cX2_isHeader 87 = .ok (.iload_n 1, 1) := by decide +kernel
theorem dX2_isHeader_88 : decode cX2_isHeader 88 = .ok (.bipush 10, 2) := by decide +kernel
theorem dX2_isHeader_90 : decode cX2_isHeader 90 = .ok (.if_icmp .ne 7, 3) := by decide +kernel
theorem dX2_isHeader_93 : decode cX2_isHeader 93 = .ok (.iconst 1, 1) := by decide +kernel
theorem dX2_isHeader_94 : decode cX2_isHeader 94 = .ok (.goto 4, 3) := by decide +kernel
theorem dX2_isHeader_97 : decode cX2_isHeader 97 = .ok (.iconst 0, 1) := by decide +kernel
theorem dX2_isHeader_98 : decode cX2_isHeader 98 = .ok (.ireturn, 1) := by decide +kernel
theorem dX2_isLineBegin_0 : decode cX2_isLineBegin 0 = .ok (.iload_n 1, 1) := by decide +kernel
theorem dX2_isLineBegin_1 : decode cX2_isLineBegin 1 = .ok (.bipush 13, 2) := by decide +kernel
theorem dX2_isLineBegin_3 : decode cX2_isLineBegin 3 = .ok (.if_icmp .ne 21, 3) := by decide +kernel
theorem dX2_isLineBegin_6 : decode cX2_isLineBegin 6 = .ok (.aload_n 0, 1) := by decide +kernel
theorem dX2_isLineBegin_7 : decode cX2_isLineBegin 7 = .ok (.iconst 5, 1) := by decide +kernel
theorem dX2_isLineBegin_8 : decode cX2_isLineBegin 8 = .ok (.putfield 15, 3) := by decide +kernel
theorem dX2_isLineBegin_11 : decode cX2_isLineBegin 11 = .ok (.aload_n 0, 1) := by decide +kernel
theorem dX2_isLineBegin_12 : decode cX2_isLineBegin 12 = .ok (.getfield 19, 3) := by decide +kernel
theorem dX2_isLineBegin_15 : decode cX2_isLineBegin 15 = .ok (.ifCond .lt 7, 3) := by decide +kernel
theorem dX2_isLineBegin_18 : decode cX2_isLineBegin 18 = .ok (.iconst 1, 1) := by decide +kernel
theorem dX2_isLineBegin_19 : decode cX2_isLineBegin 19 = .ok (.goto 4, 3) := by decide +kernel
theorem dX2_isLineBegin_22 : decode cX2_isLineBegin 22 = .ok (.iconst 0, 1) := by decide +kernel
theorem dX2_isLineBegin_23 : decode cX2_isLineBegin 23 = .ok (.ireturn, 1) := by decide +kernel
theorem dX2_isLineBegin_24 : decode cX2_isLineBegin 24 = .ok (.aload_n 0, 1) := by decide +kernel
theorem dX2_isLineBegin_25 : decode cX2_isLineBegin 25 = .ok (.iconst 1, 1) := by decide +kernel
theorem dX2_isLineBegin_26 : decode cX2_isLineBegin 26 = .ok (.putfield 15, 3) := by decide +kernel
theorem dX2_isLineBegin_29 : decode cX2_isLineBegin 29 = .ok (.aload_n 0, 1) := by decide +kernel
theorem dX2_isLineBegin_30 : decode cX2_isLineBegin 30 = .ok (.iconst 0, 1) := by decide +kernel
theorem dX2_isLineBegin_31 : decode cX2_isLineBegin 31 = .ok (.putfield 54, 3) := by decide +kernel
theorem dX2_isLineBegin_34 : decode cX2_isLineBegin 34 = .ok (.aload_n 0, 1) := by decide +kernel
theorem dX2_isLineBegin_35 : decode cX2_isLineBegin 35 = .ok (.iconst 1, 1) := by decide +kernel
theorem dX2_isLineBegin_36 : decode cX2_isLineBegin 36 = .ok (.putfield 57, 3) := by decide +kernel
theorem dX2_isLineBegin_39 : decode cX2_isLineBegin 39 = .ok (.iload_n 1, 1) := by decide +kernel
theorem dX2_isLineBegin_40 : decode cX2_isLineBegin 40 = .ok (.bipush 58, 2) := by decide +kernel
theorem dX2_isLineBegin_42 : decode cX2_isLineBegin 42 = .ok (.if_icmp .eq 15, 3) := by decide +kernel
theorem dX2_isLineBegin_45 : decode cX2_isLineBegin 45 = .ok (.aload_n 0, 1) := by decide +kernel
theorem dX2_isLineBegin_46 : decode cX2_isLineBegin 46 = .ok (.iload_n 1, 1) := by decide +kernel
theorem dX2_isLineBegin_47 : decode cX2_isLineBegin 47 = .ok (.invokevirtual 45, 3) := by decide +kernel
theorem dX2_isLineBegin_50 : decode cX2_isLineBegin 50 = .ok (.ifCond .eq 7, 3) := by decide +kernel
theorem dX2_isLineBegin_53 : decode cX2_isLineBegin 53 = .ok (.iconst 1, 1) := by decide +kernel
theorem dX2_isLineBegin_54 : decode cX2_isLineBegin 54 = .ok (.goto 4, 3) := by decide +kernel
theorem dX2_isLineBegin_57 : decode cX2_isLineBegin 57 = .ok (.iconst 0, 1) := by decide +kernel
theorem dX2_isLineBegin_58 : decode cX2_isLineBegin 58 = .ok (.ireturn, 1) := by decide +kernel
theorem dX2_isInName_0 : decode cX2_isInName 0 = .ok (.iload_n 1, 1) := by decide +kernel
theorem dX2_isInName_1 : decode cX2_isInName 1 = .ok (.bipush 58, 2) := by decide +kernel
theorem dX2_isInName_3 : decode cX2_isInName 3 = .ok (.if_icmp .ne 43, 3) := by decide +kernel
theorem dX2_isInName_6 : decode cX2_isInName 6 = .ok (.aload_n 0, 1) := by decide +kernel
theorem dX2_isInName_7 : decode cX2_isInName 7 = .ok (.aload_n 0, 1) := by decide +kernel
theorem dX2_isInName_8 : decode cX2_isInName 8 = .ok (.getfield 57, 3) := by decide +kernel
theorem dX2_isInName_11 : decode cX2_isInName 11 = .ok (.ifCond .eq 19, 3) := by decide +kernel
theorem dX2_isInName_14 : decode cX2_isInName 14 = .ok (.aload_n 0, 1) := by decide +kernel
theorem dX2_isInName_15 : decode cX2_isInName 15 = .ok (.getfield 54, 3) := by decide +kernel
theorem dX2_isInName_18 : decode cX2_isInName 18 = .ok (.ldc 60, 2) := by decide +kernel
theorem dX2_isInName_20 : decode cX2_isInName 20 = .ok (.invokevirtual 62, 3) := by decide +kernel
theorem dX2_isInName_23 : decode cX2_isInName 23 = .ok (.if_icmp .ne 7, 3) := by decide +kernel
theorem dX2_isInName_26 : decode cX2_isInName 26 = .ok (.iconst 3, 1) := by decide +kernel
theorem dX2_isInName_27 : decode cX2_isInName 27 = .ok (.goto 4, 3) := by decide +kernel
theorem dX2_isInName_30 : decode cX2_isInName 30 = .ok (.iconst 2, 1) := by decide +kernel
theorem dX2_isInName_31 : decode cX2_isInName 31 = .ok (.putfield 15, 3) := by decide +kernel
theorem dX2_isInName_34 : decode cX2_isInName 34 = .ok (.aload_n 0, 1) := by decide +kernel
theorem dX2_isInName_35 : decode cX2_isInName 35 = .ok (.iconst 0, 1) := by decide +kernel
theorem dX2_isInName_36 : decode cX2_isInName 36 = .ok (.putfield 67, 3) := by decide +kernel
theorem dX2_isInName_39 : decode cX2_isInName 39 = .ok (.aload_n 0, 1) := by decide +kernel
theorem dX2_isInName_40 : decode cX2_isInName 40 = .ok (.iconst 0, 1) := by decide +kernel
theorem dX2_isInName_41 : decode cX2_isInName 41 = .ok (.putfield 70, 3) := by decide +kernel
theorem dX2_isInName_44 : decode cX2_isInName 44 = .ok (.iconst 1, 1) := by decide +kernel
theorem dX2_isInName_45 : decode cX2_isInName 45 = .ok (.ireturn, 1) := by decide +kernel
theorem dX2_isInName_46 : decode cX2_isInName 46 = .ok (.iload_n 1, 1) := by decide +kernel
theorem dX2_isInName_47 : decode cX2_isInName 47 = .ok (.bipush 65, 2) := by decide +kernel
theorem dX2_isInName_49 : decode cX2_isInName 49 = .ok (.if_icmp .lt 16, 3) := by decide +kernel
theorem dX2_isInName_52 : decode cX2_isInName 52 = .ok (.iload_n 1, 1) := by decide +kernel
theorem dX2_isInName_53 : decode cX2_isInName 53 = .ok (.bipush 90, 2) := by decide +kernel
theorem dX2_isInName_55 : decode cX2_isInName 55 = .ok (.if_icmp .gt 10, 3) := by decide +kernel
theorem dX2_isInName_58 : decode cX2_isInName 58 = .ok (.iload_n 1, 1) := by decide +kernel
theorem dX2_isInName_59 : decode cX2_isInName 59 = .ok (.bipush 32, 2) := by decide +kernel
theorem dX2_isInName_61 : decode cX2_isInName 61 = .ok (.iadd, 1) := by decide +kernel
theorem dX2_isInName_62 : decode cX2_isInName 62 = .ok (.goto 4, 3) := by decide +kernel
theorem dX2_isInName_65 : decode cX2_isInName 65 = .ok (.iload_n 1, 1) := by decide +kernel
theorem dX2_isInName_66 : decode cX2_isInName 66 = .ok (.istore_n 2, 1) := by decide +kernel
theorem dX2_isInName_67 : decode cX2_isInName 67 = .ok (.aload_n 0, 1) := by decide +kernel
theorem dX2_isInName_68 : decode cX2_isInName 68 = .ok (.aload_n 0, 1) := by decide +kernel
theorem dX2_isInName_69 : decode cX2_isInName 69 = .ok (.getfield 57, 3) := by decide +kernel
theorem dX2_isInName_72 : decode cX2_isInName 72 = .ok (.ifCond .eq 32, 3) := by decide +kernel
theorem dX2_isInName_75 : decode cX2_isInName 75 = .ok (.aload_n 0, 1) := by decide +kernel
theorem dX2_isInName_76 : decode cX2_isInName 76 = .ok (.getfield 54, 3) := by decide +kernel
theorem dX2_isInName_79 : decode cX2_isInName 79 = .ok (.ldc 60, 2) := by decide +kernel
theorem dX2_isInName_81 : decode cX2_isInName 81 = .ok (.invokevirtual 62, 3) := by decide +kernel
theorem dX2_isInName_84 : decode cX2_isInName 84 = .ok (.if_icmp .ge 20, 3) := by decide +kernel
theorem dX2_isInName_87 : decode cX2_isInName 87 = .ok (.ldc 60, 2) := by decide +kernel
theorem dX2_isInName_89 : decode cX2_isInName 89 = .ok (.aload_n 0, 1) := by decide +kernel
theorem dX2_isInName_90 : decode cX2_isInName 90 = .ok (.getfield 54, 3) := by decide +kernel
theorem dX2_isInName_93 : decode cX2_isInName 93 = .ok (.invokevirtual 73, 3) := by decide +kernel
theorem dX2_isInName_96 : decode cX2_isInName 96 = .ok (.iload_n 2, 1) := by decide +kernel
theorem dX2_isInName_97 : decode cX2_isInName 97 = .ok (.if_icmp .ne 7, 3) := by decide +kernel
theorem dX2_isInName_100 : decode cX2_isInName 100 = .ok (.iconst 1, 1) := by decide +kernel
theorem dX2_isInName_101 : decode cX2_isInName 101 = .ok (.goto 4, 3) := by decide +kernel
theorem dX2_isInName_104 : decode cX2_isInName 104 = .ok (.iconst 0, 1) := by decide +kernel
theorem dX2_isInName_105 : decode cX2_isInName 105 = .ok (.putfield 57, 3) := by decide +kernel
theorem dX2_isInName_108 : decode cX2_isInName 108 = .ok (.aload_n 0, 1) := by decide +kernel
theorem dX2_isInName_109 : decode cX2_isInName 109 = .ok (.dup, 1) := by decide +kernel
theorem dX2_isInName_110 : decode cX2_isInName 110 = .ok (.getfield 54, 3) := by decide +kernel
theorem dX2_isInName_113 : decode cX2_isInName 113 = .ok (.iconst 1, 1) := by decide +kernel
theorem dX2_isInName_114 : decode cX2_isInName 114 = .ok (.iadd, 1) := by decide +kernel
theorem dX2_isInName_115 : decode cX2_isInName 115 = .ok (.putfield 54, 3) := by decide +kernel
theorem dX2_isInName_118 : decode cX2_isInName 118 = .ok (.iload_n 2, 1) := by decide +kernel
theorem dX2_isInName_119 : decode cX2_isInName 119 = .ok (.bipush 45, 2) := by decide +kernel
theorem dX2_isInName_121 : decode cX2_isInName 121 = .ok (.if_icmp .eq 15, 3) := by decide +kernel
theorem dX2_isInName_124 : decode cX2_isInName 124 = .ok (.iload_n 2, 1) := by decide +kernel
theorem dX2_isInName_125 : decode cX2_isInName 125 = .ok (.bipush 97, 2) := by decide +kernel
theorem dX2_isInName_127 : decode cX2_isInName 127 = .ok (.if_icmp .lt 13, 3) := by decide +kernel
theorem dX2_isInName_130 : decode cX2_isInName 130 = .ok (.iload_n 2, 1) := by decide +kernel
theorem dX2_isInName_131 : decode cX2_isInName 131 = .ok (.bipush 122, 2) := by decide +kernel
theorem dX2_isInName_133 : decode cX2_isInName 133 = .ok (.if_icmp .gt 7, 3) := by decide +kernel
theorem dX2_isInName_136 : decode cX2_isInName 136 = .ok (.iconst 1, 1) := by decide +kernel
theorem dX2_isInName_137 : decode cX2_isInName 137 = .ok (.goto 4, 3) := by decide +kernel
theorem dX2_isInName_140 : decode cX2_isInName 140 = .ok (.iconst 0, 1) := by decide +kernel
theorem dX2_isInName_141 : decode cX2_isInName 141 = .ok (.ireturn, 1) := by decide +kernel
theorem dX2_isInValue_0 : decode cX2_isInValue 0 = .ok (.iload_n 1, 1) := by decide +kernel
theorem dX2_isInValue_1 : decode cX2_isInValue 1 = .ok (.bipush 13, 2) := by decide +kernel
theorem dX2_isInValue_3 : decode cX2_isInValue 3 = .ok (.if_icmp .ne 10, 3) := by decide +kernel
theorem dX2_isInValue_6 : decode cX2_isInValue 6 = .ok (.aload_n 0, 1) := by decide +kernel
theorem dX2_isInValue_7 : decode cX2_isInValue 7 = .ok (.iconst 4, 1) := by decide +kernel
theorem dX2_isInValue_8 : decode cX2_isInValue 8 = .ok (.putfield 15, 3) := by decide +kernel
theorem dX2_isInValue_11 : decode cX2_isInValue 11 = .ok (.iconst 1, 1) := by decide +kernel
theorem dX2_isInValue_12 : decode cX2_isInValue 12 = .ok (.ireturn, 1) := by decide +kernel
theorem dX2_isInValue_13 : decode cX2_isInValue 13 = .ok (.iload_n 1, 1) := by decide +kernel
theorem dX2_isInValue_14 : decode cX2_isInValue 14 = .ok (.bipush 32, 2) := by decide +kernel
theorem dX2_isInValue_16 : decode cX2_isInValue 16 = .ok (.if_icmp .lt 13, 3) := by decide +kernel
theorem dX2_isInValue_19 : decode cX2_isInValue 19 = .ok (.iload_n 1, 1) := by decide +kernel
theorem dX2_isInValue_20 : decode cX2_isInValue 20 = .ok (.bipush 126, 2) := by decide +kernel
theorem dX2_isInValue_22 : decode cX2_isInValue 22 = .ok (.if_icmp .gt 7, 3) := by decide +kernel
theorem dX2_isInValue_25 : decode cX2_isInValue 25 = .ok (.iconst 1, 1) := by decide +kernel
theorem dX2_isInValue_26 : decode cX2_isInValue 26 = .ok (.goto 4, 3) := by decide +kernel
theorem dX2_isInValue_29 : decode cX2_isInValue 29 = .ok (.iconst 0, 1) := by decide +kernel
theorem dX2_isInValue_30 : decode cX2_isInValue 30 = .ok (.ireturn, 1) := by decide +kernel
theorem dX2_isInLength_0 : decode cX2_isInLength 0 = .ok (.iload_n 1, 1) := by decide +kernel
theorem dX2_isInLength_1 : decode cX2_isInLength 1 = .ok (.bipush 13, 2) := by decide +kernel
theorem dX2_isInLength_3 : decode cX2_isInLength 3 = .ok (.if_icmp .ne 29, 3) := by decide +kernel
theorem dX2_isInLength_6 : decode cX2_isInLength 6 = .ok (.aload_n 0, 1) := by decide +kernel
theorem dX2_isInLength_7 : decode cX2_isInLength 7 = .ok (.iconst 4, 1) := by decide +kernel
theorem dX2_isInLength_8 : decode cX2_isInLength 8 = .ok (.putfield 15, 3) := by decide +kernel
theorem dX2_isInLength_11 : decode cX2_isInLength 11 = .ok (.aload_n 0, 1) := by decide +kernel
theorem dX2_isInLength_12 : decode cX2_isInLength 12 = .ok (.aload_n 0, 1) := by decide +kernel
theorem dX2_isInLength_13 : decode cX2_isInLength 13 = .ok (.getfield 70, 3) := by decide +kernel
theorem dX2_isInLength_16 : decode cX2_isInLength 16 = .ok (.putfield 19, 3) := by decide +kernel
theorem dX2_isInLength_19 : decode cX2_isInLength 19 = .ok (.aload_n 0, 1) := by decide +kernel
theorem dX2_isInLength_20 : decode cX2_isInLength 20 = .ok (.getfield 67, 3) := by decide +kernel
theorem dX2_isInLength_23 : decode cX2_isInLength 23 = .ok (.ifCond .le 7, 3) := by decide +kernel
theorem dX2_isInLength_26 : decode cX2_isInLength 26 = .ok (.iconst 1, 1) := by decide +kernel
theorem dX2_isInLength_27 : decode cX2_isInLength 27 = .ok (.goto 4, 3) := by decide +kernel
theorem dX2_isInLength_30 : decode cX2_isInLength 30 = .ok (.iconst 0, 1) := by decide +kernel
theorem dX2_isInLength_31 : decode cX2_isInLength 31 = .ok (.ireturn, 1) := by decide +kernel
theorem dX2_isInLength_32 : decode cX2_isInLength 32 = .ok (.iload_n 1, 1) := by decide +kernel
theorem dX2_isInLength_33 : decode cX2_isInLength 33 = .ok (.bipush 48, 2) := by decide +kernel
theorem dX2_isInLength_35 : decode cX2_isInLength 35 = .ok (.if_icmp .lt 9, 3) := by decide +kernel
theorem dX2_isInLength_38 : decode cX2_isInLength 38 = .ok (.iload_n 1, 1) := by decide +kernel
theorem dX2_isInLength_39 : decode cX2_isInLength 39 = .ok (.bipush 57, 2) := by decide +kernel
theorem dX2_isInLength_41 : decode cX2_isInLength 41 = .ok (.if_icmp .le 22, 3) := by decide +kernel
theorem dX2_isInLength_44 : decode cX2_isInLength 44 = .ok (.iload_n 1, 1) := by decide +kernel
theorem dX2_isInLength_45 : decode cX2_isInLength 45 = .ok (.bipush 32, 2) := by decide +kernel
theorem dX2_isInLength_47 : decode cX2_isInLength 47 = .ok (.if_icmp .ne 14, 3) := by decide +kernel
theorem dX2_isInLength_50 : decode cX2_isInLength 50 = .ok (.aload_n 0, 1) := by decide +kernel
theorem dX2_isInLength_51 : decode cX2_isInLength 51 = .ok (.getfield 67, 3) := by decide +kernel
theorem dX2_isInLength_54 : decode cX2_isInLength 54 = .ok (.ifCond .ne 7, 3) := by decide +kernel
theorem dX2_isInLength_57 : decode cX2_isInLength 57 = .ok (.iconst 1, 1) := by decide +kernel
theorem dX2_isInLength_58 : decode cX2_isInLength 58 = .ok (.goto 4, 3) := by decide +kernel
theorem dX2_isInLength_61 : decode cX2_isInLength 61 = .ok (.iconst 0, 1) := by decide +kernel
theorem dX2_isInLength_62 : decode cX2_isInLength 62 = .ok (.ireturn, 1) := by decide +kernel
theorem dX2_isInLength_63 : decode cX2_isInLength 63 = .ok (.aload_n 0, 1) := by decide +kernel
theorem dX2_isInLength_64 : decode cX2_isInLength 64 = .ok (.dup, 1) := by decide +kernel
theorem dX2_isInLength_65 : decode cX2_isInLength 65 = .ok (.getfield 67, 3) := by decide +kernel
theorem dX2_isInLength_68 : decode cX2_isInLength 68 = .ok (.iconst 1, 1) := by decide +kernel
theorem dX2_isInLength_69 : decode cX2_isInLength 69 = .ok (.iadd, 1) := by decide +kernel
theorem dX2_isInLength_70 : decode cX2_isInLength 70 = .ok (.putfield 67, 3) := by decide +kernel
theorem dX2_isInLength_73 : decode cX2_isInLength 73 = .ok (.aload_n 0, 1) := by decide +kernel
theorem dX2_isInLength_74 : decode cX2_isInLength 74 = .ok (.aload_n 0, 1) := by decide +kernel
theorem dX2_isInLength_75 : decode cX2_isInLength 75 = .ok (.getfield 70, 3) := by decide +kernel
theorem dX2_isInLength_78 : decode cX2_isInLength 78 = .ok (.bipush 10, 2) := by decide +kernel
theorem dX2_isInLength_80 : decode cX2_isInLength 80 = .ok (.imul, 1) := by decide +kernel
theorem dX2_isInLength_81 : decode cX2_isInLength 81 = .ok (.iload_n 1, 1) := by decide +kernel
theorem dX2_isInLength_82 : decode cX2_isInLength 82 = .ok (.iadd, 1) := by decide +kernel
theorem dX2_isInLength_83 : decode cX2_isInLength 83 = .ok (.bipush 48, 2) := by decide +kernel
theorem dX2_isInLength_85 : decode cX2_isInLength 85 = .ok (.isub, 1) := by decide +kernel
theorem dX2_isInLength_86 : decode cX2_isInLength 86 = .ok (.putfield 70, 3) := by decide +kernel
theorem dX2_isInLength_89 : decode cX2_isInLength 89 = .ok (.aload_n 0, 1) := by decide +kernel
theorem dX2_isInLength_90 : decode cX2_isInLength 90 = .ok (.getfield 67, 3) := by decide +kernel
theorem dX2_isInLength_93 : decode cX2_isInLength 93 = .ok (.iconst 4, 1) := by decide +kernel
theorem dX2_isInLength_94 : decode cX2_isInLength 94 = .ok (.if_icmp .gt 17, 3) := by decide +kernel
theorem dX2_isInLength_97 : decode cX2_isInLength 97 = .ok (.aload_n 0, 1) := by decide +kernel
theorem dX2_isInLength_98 : decode cX2_isInLength 98 = .ok (.getfield 70, 3) := by decide +kernel
theorem dX2_isInLength_101 : decode cX2_isInLength 101 = .ok (.sipush 3000, 3) := by decide +kernel
theorem dX2_isInLength_104 : decode cX2_isInLength 104 = .ok (.if_icmp .gt 7, 3) := by decide +kernel
theorem dX2_isInLength_107 : decode cX2_isInLength 107 = .ok (.iconst 1, 1) := by decide +kernel
theorem dX2_isInLength_108 : decode cX2_isInLength 108 = .ok (.goto 4, 3) := by decide +kernel
theorem dX2_isInLength_111 : decode cX2_isInLength 111 = .ok (.iconst 0, 1) := by decide +kernel
theorem dX2_isInLength_112 : decode cX2_isInLength 112 = .ok (.ireturn, 1) := by decide +kernel
end
section
-- what a method writes of some objects only
theorem jn2 {a b c : Nat} (h : a ≠ b) (h1 : a ≠ c) : a ∉ [b, c] := fun q => by
  rcases List.mem_cons.mp q with e | e
  · exact h e
  · exact h1 (List.mem_singleton.mp e)
end
section
-- p9: frames: X 0 fine or broken, 1 place, 2 told, 3 kept, 4 signs, 5 the name is like the wanted one, 6 digits, 7 value, 8 filled
section
variable {x a b c d e f g h i u r p q ql qg : Int}
theorem jfIn_c (hc : u = 58) (hq : (f = 1 ∧ e = 14 ∧ p = 3) ∨ ((f ≠ 1 ∨ e ≠ 14) ∧ p = 2)) (hr : r = 1) {qd qv : Int} (hd : qd = 0) (hv : qv = 0) : jfIn (jfV x b c d e f g h i) u = jfV r p c d e f qd qv i := by
  unfold jfIn
  rw [if_pos hc, hr, hd, hv]
  show jfV 1 (if f = 1 ∧ e = 14 then 3 else 2) c d e f 0 0 i = _
  rcases hq with ⟨h1, h2, h3⟩ | ⟨h1, h2⟩
  · rw [if_pos ⟨h1, h2⟩, h3]
  · rw [if_neg (by omega), h2]
theorem jfIn_n {s : Int} (hc : u ≠ 58) (hs : s = jfSm u) (hl : (f = 1 ∧ e < 14 ∧ jfC e = s ∧ ql = 1) ∨ ((f ≠ 1 ∨ 14 ≤ e ∨ jfC e ≠ s) ∧ ql = 0)) (hg : qg = e + 1) (hr : ((s = 45 ∨ (97 ≤ s ∧ s ≤ 122)) ∧ r = 1) ∨ (s ≠ 45 ∧ (s < 97 ∨ 122 < s) ∧ r = 0)) : jfIn (jfV x b c d e f g h i) u = jfV r b c d qg ql g h i := by
  unfold jfIn
  rw [if_neg hc, ← hs, hg]
  show jfV (jfOk s) b c d (e + 1) (jfLn f e s) g h i = _
  have h1 : jfOk s = r := by
    unfold jfOk
    rcases hr with ⟨h2, h3⟩ | ⟨h2, h3, h4⟩
    · rw [if_pos h2, h3]
    · rw [if_neg (by omega), h4]
  have h2 : jfLn f e s = ql := by
    unfold jfLn
    rcases hl with ⟨h3, h4, h5, h6⟩ | ⟨h3, h4⟩
    · rw [if_pos ⟨h3, h4, h5⟩, h6]
    · rw [if_neg (by rintro ⟨q1, q2, q3⟩; rcases h3 with h3 | h3 | h3; exact h3 q1; omega; exact h3 q3), h4]
  rw [h1, h2]
theorem jfLb_r (hu : u = 13) (hp : p = 5) (hr : (0 ≤ c ∧ r = 1) ∨ (c < 0 ∧ r = 0)) : jfLb (jfV x b c d e f g h i) u = jfV r p c d e f g h i := by
  unfold jfLb
  rw [if_pos hu, hp]
  show jfV (if 0 ≤ c then 1 else 0) 5 c d e f g h i = _
  rcases hr with ⟨h1, h2⟩ | ⟨h1, h2⟩
  · rw [if_pos h1, h2]
  · rw [if_neg (by omega), h2]
theorem jfLb_c (hu : u = 58) (hp : p = 1) (hg : qg = 0) (hl : ql = 1) (hr : r = 0) : jfLb (jfV x b c d e f g h i) u = jfV r p c d qg ql g h i := by
  unfold jfLb
  rw [if_neg (by omega), if_pos hu, hr, hp, hg, hl]
  rfl
theorem jfLb_n {Y : Nat → Int} (hu : u ≠ 13) (h58 : u ≠ 58) (hp : p = 1) (hg : qg = 0) (hl : ql = 1) (hy : jfIn (jfV 1 p c d qg ql g h i) u = Y) : jfLb (jfV x b c d e f g h i) u = Y := by
  rw [hp, hg, hl] at hy
  unfold jfLb
  rw [if_neg hu, if_neg h58]
  exact hy
theorem jfIv_r (hu : u = 13) (hp : p = 4) (hr : r = 1) : jfIv (jfV x b c d e f g h i) u = jfV r p c d e f g h i := by
  unfold jfIv
  rw [if_pos hu, hr, hp]
  rfl
theorem jfIv_n (hu : u ≠ 13) (hr : (32 ≤ u ∧ u ≤ 126 ∧ r = 1) ∨ ((u < 32 ∨ 126 < u) ∧ r = 0)) : jfIv (jfV x b c d e f g h i) u = jfV r b c d e f g h i := by
  unfold jfIv
  rw [if_neg hu]
  show jfV (if 32 ≤ u ∧ u ≤ 126 then 1 else 0) b c d e f g h i = _
  rcases hr with ⟨h1, h2, h3⟩ | ⟨h1, h2⟩
  · rw [if_pos ⟨h1, h2⟩, h3]
  · rw [if_neg (by omega), h2]
theorem jfIl_r (hu : u = 13) (hp : p = 4) (hq : q = h) (hr : (0 < g ∧ r = 1) ∨ (g ≤ 0 ∧ r = 0)) : jfIl (jfV x b c d e f g h i) u = jfV r p q d e f g h i := by
  unfold jfIl
  rw [if_pos hu, hp, hq]
  show jfV (if 0 < g then 1 else 0) 4 h d e f g h i = _
  rcases hr with ⟨h1, h2⟩ | ⟨h1, h2⟩
  · rw [if_pos h1, h2]
  · rw [if_neg (by omega), h2]
theorem jfIl_b (hu : u ≠ 13) (h4 : u < 48 ∨ 57 < u) (hr : (u = 32 ∧ g = 0 ∧ r = 1) ∨ ((u ≠ 32 ∨ g ≠ 0) ∧ r = 0)) : jfIl (jfV x b c d e f g h i) u = jfV r b c d e f g h i := by
  unfold jfIl
  rw [if_neg hu, if_pos h4]
  show jfV (if u = 32 ∧ g = 0 then 1 else 0) b c d e f g h i = _
  rcases hr with ⟨h1, h2, h3⟩ | ⟨h1, h2⟩
  · rw [if_pos ⟨h1, h2⟩, h3]
  · rw [if_neg (by omega), h2]
theorem jfIl_d (h0 : 48 ≤ u) (h9 : u ≤ 57) (hp : p = g + 1) (hq : q = h * 10 + u - 48) (hr : (p ≤ 4 ∧ q ≤ 3000 ∧ r = 1) ∨ ((4 < p ∨ 3000 < q) ∧ r = 0)) : jfIl (jfV x b c d e f g h i) u = jfV r b c d e f p q i := by
  unfold jfIl
  rw [if_neg (by omega), if_neg (by omega)]
  show jfV (if g + 1 ≤ 4 ∧ h * 10 + u - 48 ≤ 3000 then 1 else 0) b c d e f (g + 1) (h * 10 + u - 48) i = _
  rw [← hp, ← hq]
  rcases hr with ⟨h1, h2, h3⟩ | ⟨h1, h2⟩
  · rw [if_pos ⟨h1, h2⟩, h3]
  · rw [if_neg (by omega), h2]
theorem jfHd_0 {Y : Nat → Int} (hb : b = 0) (hy : jfLb (jfV x b c d e f g h i) u = Y) : jfHd (jfV x b c d e f g h i) u = Y := by unfold jfHd; rw [if_pos (show jfV x b c d e f g h i 1 = 0 from hb)]; exact hy
theorem jfHd_1 {Y : Nat → Int} (hb : b = 1) (hy : jfIn (jfV x b c d e f g h i) u = Y) : jfHd (jfV x b c d e f g h i) u = Y := by unfold jfHd; rw [if_neg (show ¬ jfV x b c d e f g h i 1 = 0 from fun w => by have w : b = 0 := w; omega), if_pos (show jfV x b c d e f g h i 1 = 1 from hb)]; exact hy
theorem jfHd_2 {Y : Nat → Int} (hb : b = 2) (hy : jfIv (jfV x b c d e f g h i) u = Y) : jfHd (jfV x b c d e f g h i) u = Y := by unfold jfHd; rw [if_neg (show ¬ jfV x b c d e f g h i 1 = 0 from fun w => by have w : b = 0 := w; omega), if_neg (show ¬ jfV x b c d e f g h i 1 = 1 from fun w => by have w : b = 1 := w; omega), if_pos (show jfV x b c d e f g h i 1 = 2 from hb)]; exact hy
theorem jfHd_3 {Y : Nat → Int} (hb : b = 3) (hy : jfIl (jfV x b c d e f g h i) u = Y) : jfHd (jfV x b c d e f g h i) u = Y := by unfold jfHd; rw [if_neg (show ¬ jfV x b c d e f g h i 1 = 0 from fun w => by have w : b = 0 := w; omega), if_neg (show ¬ jfV x b c d e f g h i 1 = 1 from fun w => by have w : b = 1 := w; omega), if_neg (show ¬ jfV x b c d e f g h i 1 = 2 from fun w => by have w : b = 2 := w; omega), if_pos (show jfV x b c d e f g h i 1 = 3 from hb)]; exact hy
theorem jfHd_4 (hb : (b = 4 ∧ p = 0) ∨ (b = 5 ∧ p = 6)) (hr : (u = 10 ∧ r = 1) ∨ (u ≠ 10 ∧ r = 0)) : jfHd (jfV x b c d e f g h i) u = jfV r p c d e f g h i := by
  have e1 : ∀ k : Int, k < 4 → ¬ jfV x b c d e f g h i 1 = k := fun k hk w => by have w : b = k := w; omega
  unfold jfHd
  rw [if_neg (e1 0 (by omega)), if_neg (e1 1 (by omega)), if_neg (e1 2 (by omega)), if_neg (e1 3 (by omega))]
  show jfV (if u = 10 then 1 else 0) (if b = 4 then 0 else 6) c d e f g h i = _
  have h1 : (if u = 10 then (1 : Int) else 0) = r := by
    rcases hr with ⟨h1, h2⟩ | ⟨h1, h2⟩
    · rw [if_pos h1, h2]
    · rw [if_neg h1, h2]
  have h2 : (if b = 4 then (0 : Int) else 6) = p := by
    rcases hb with ⟨h1, h2⟩ | ⟨h1, h2⟩
    · rw [if_pos h1, h2]
    · rw [if_neg (by omega), h2]
  rw [h1, h2]
theorem jfA.xo {qn qb a1 a2 a3 a4 a5 a6 a7 a8 : Int} (hb : b ≠ 6) (hx : 200 ≤ d ∨ ∃ (p q t ql qg s k : Int), jfHd (jfV x b c d e f g h i) u = jfV 0 p q t ql qg s k i) (hr : r = 0) (hq : qb = 1) : jfA (jfV x b c d e f g h i) u r qn qb a1 a2 a3 a4 a5 a6 a7 a8 := by
  refine ⟨jfB, 0, ?_, Or.inl ⟨hq, rfl⟩, fun w => by omega⟩
  unfold jfAc
  rw [if_neg (show ¬ jfV x b c d e f g h i 1 = 6 from hb), if_pos, hr]
  rcases hx with hx | ⟨p, q, t, ql, qg, s, k, hx⟩
  · exact Or.inl hx
  · exact Or.inr (by rw [hx]; rfl)
theorem jfA.hn {p q ql qg s t k qn qb : Int} (hb : b ≠ 6) (hd : d < 200) (hy : jfHd (jfV x b c d e f g h i) u = jfV 1 p q d ql qg s t i) (hk : k = d + 1) (hw : p ≠ 6 ∨ i < q) (hr : r = 0) (hq : qb = 0) : jfA (jfV x b c d e f g h i) u r qn qb p q k ql qg s t i := by
  refine ⟨jfV 0 p q k ql qg s t i, 0, ?_, Or.inr ⟨hq, rfl⟩, fun w => by omega⟩
  unfold jfAc
  rw [if_neg (show ¬ jfV x b c d e f g h i 1 = 6 from hb), hy, if_neg (show ¬ (200 ≤ jfV x b c d e f g h i 3 ∨ jfV 1 p q d ql qg s t i 0 = 0) from fun w => by
    rcases w with w | w
    · have w : 200 ≤ d := w; omega
    · have w : (1 : Int) = 0 := w; omega)]
  show jfW (jfV 0 p q (d + 1) ql qg s t i) = _
  rw [jfW_n hw, hk, hr]
theorem jfA.hy {p q ql qg s t qn qb a1 a2 a3 a4 : Int} (hb : b ≠ 6) (hd : d < 200) (hy : jfHd (jfV x b c d e f g h i) u = jfV 1 p q d ql qg s t i) (hw : p = 6) (hi : q ≤ i) (hr : r = 1) (hq : qb = 0) (hn : qn = q) (h1 : a1 = 0) (h2 : a2 = -1) (h3 : a3 = 0) (h4 : a4 = 0) : jfA (jfV x b c d e f g h i) u r qn qb a1 a2 a3 ql qg s t a4 := by
  refine ⟨jfV 0 0 (-1) 0 ql qg s t 0, q, ?_, Or.inr ⟨hq, by rw [h1, h2, h3, h4]⟩, fun w => hn⟩
  unfold jfAc
  rw [if_neg (show ¬ jfV x b c d e f g h i 1 = 6 from hb), hy, if_neg (show ¬ (200 ≤ jfV x b c d e f g h i 3 ∨ jfV 1 p q d ql qg s t i 0 = 0) from fun w => by
    rcases w with w | w
    · have w : 200 ≤ d := w; omega
    · have w : (1 : Int) = 0 := w; omega)]
  show jfW (jfV 0 p q (d + 1) ql qg s t i) = _
  rw [jfW_y hw hi, hr]
theorem jfA.by {qn qb a1 a2 a3 a4 : Int} (hb : b = 6) (hw : c ≤ i + 1) (hr : r = 1) (hq : qb = 0) (hn : qn = c) (h1 : a1 = 0) (h2 : a2 = -1) (h3 : a3 = 0) (h4 : a4 = 0) : jfA (jfV x b c d e f g h i) u r qn qb a1 a2 a3 e f g h a4 := by
  refine ⟨jfV 0 0 (-1) 0 e f g h 0, c, ?_, Or.inr ⟨hq, by rw [h1, h2, h3, h4]⟩, fun w => hn⟩
  unfold jfAc
  rw [if_pos (show jfV x b c d e f g h i 1 = 6 from hb)]
  show jfW (jfV 0 6 c (d + 1) e f g h (i + 1)) = _
  rw [jfW_y rfl hw, hr]
theorem jNr (x : Int32) : -128 ≤ (vp_nar .byte x).toInt ∧ (vp_nar .byte x).toInt ≤ 127 := by
  rw [vp_nar_byte, Int8.toInt_toInt32, Int32.toInt_toInt8]
  show -128 ≤ Int.bmod x.toInt 256 ∧ Int.bmod x.toInt 256 ≤ 127
  unfold Int.bmod
  dsimp only
  split <;> omega
end
section JP3
variable {p : Program} {l : Launch} {e : Env} {R : Room} {s : State} {m : MethodId} {args : Array Value} {below : List Frame} {meth : Method} {c : Code} {H : Heap} {locs : List Loc} {cells slots : Nat} {Q : State → Prop}
variable {cc : ByteArray} {pc : Nat} {ls : Array Slot} {rest : List Value} {dC : Nat → ClassId} {dI : Nat → Nat → Nat} {ca : Nat → ClassId} {B : jF} {base : Nat} {G0 G : jT} {E : List (Nat × Nat)} {H0 : Heap} {zc zs : Nat} {L : List jPin} {M : List jCt} {I : List jIv} {a k n : Nat} {cA : ClassId} {tys : List (ClassId × FieldType)}
theorem j7_bastW (hexec : p.tables.exec = Jvm.exec) (hb : c.code = cc) (hK : va_K (dC, dI) vwCl tys s) (hh : jSt (dC, dI) B base G0 G E H0 zc zs L M I H locs) (hB : jBok B) (hBk : ∀ n G a H, B k n G a H ↔ jAr (dC, dI) cA (fun _ _ => True) n a H) (t0 : Nat) (ht : tys[t0]? = some (cA, .byte)) (hk : k < 1000) (hk2 : 17 ≤ k) (hE : E.contains (k, 0) = true) (oj : Nat) {kk1 : Nat} {cB : ClassId} {f : Nat → Int32} (hj : M[oj]? = some (a, kk1, n, cB, f)) {M1 : List jCt} (js : List Nat) (hjs : js.map (fun i => M[i]?) = M1.map some) (hM : M1.all (fun q => !(q.2.1 == k)) = true) (hI : I.all (fun q => !(q.1.contains (k, 0))) = true) (ha : G a = some (k, n)) {i v : Int32} {x : Int} (hi : i.toInt = x) (h12 : 0 ≤ x ∧ x < n) (hdg : decode cc pc = .ok (.bastore, 1))
    (kk : ∀ (H1 : Heap) (locs1 : List Loc) (g : Nat → Int32), g x.toNat = vp_nar .byte v → (∀ j, j < n → j ≠ x.toNat → g j = f j) → jSt (dC, dI) B base G0 G E H0 zc zs L ((a, k, n, cA, g) :: M1) I H1 locs1 → W p l e R s m args below meth c H1 locs1 cells slots Q (F0 m (pc + 1) ls rest)) : W p l e R s m args below meth c H locs cells slots Q (F0 m pc ls (.int v :: .int i :: .ref a :: rest)) := by
  obtain ⟨h1, h2⟩ := h12
  obtain ⟨f', g1, g2⟩ := hh.ar hBk hk ha
  obtain ⟨-, -, -, q4⟩ := hh.2.2.2.2.2.2.2.1 _ (List.mem_of_getElem? hj)
  have hh1 : jSt (dC, dI) B base G0 G E H0 zc zs L M1 I H locs := by
    obtain ⟨e1, e2, e3, e4, e5, e6, e7, e8, e9⟩ := hh
    exact ⟨e1, e2, e3, e4, e5, e6, e7, e8.sub js hjs, e9⟩
  refine j_bastV (A := jA base) hexec hb hK t0 g1 (hh.ab ha).1 hh.1.2.2 ht (jb_in hi h1 h2) hdg (fun H1 locs1 hat hsz hfr hT hL => ?_)
  have h9 := hh1.arr hB ha hk hk2 hE hM hI hsz hfr hT hL ((hBk _ _ _ _).mpr ⟨_, hat, fun j _ => trivial⟩)
  refine kk H1 locs1 (upd f' i.toNatClampNeg (vp_nar .byte v)) (by rw [← jb_cl hi h1]; simp [upd]) (fun j hj' hne => ?_) ?_
  · have : j ≠ i.toNatClampNeg := by rw [jb_cl hi h1]; exact hne
    simp only [upd, if_neg this]
    exact (jCt_eq q4 g1 hj').symm
  · obtain ⟨e1, e2, e3, e4, e5, e6, e7, e8, e9⟩ := h9
    refine ⟨e1, e2, e3, e4, e5, e6, e7, fun q hq => ?_, e9⟩
    rcases List.mem_cons.mp hq with e | e
    · subst e; exact ⟨ha, hk2, hk, hat⟩
    · exact e8 q e
end JP3
theorem jfr1 {X : Nat → Int} {r a b c d e f g h : Int} (q : X = jfV r a b c d e f g h) (hr : r = 1) : X = jfV 1 a b c d e f g h := by rw [q, hr]
theorem jfrx {X : Nat → Int} {r r1 a b c d e f g h : Int} (q : X = jfV r a b c d e f g h) (hr : r = r1) : X = jfV r1 a b c d e f g h := by rw [q, hr]
theorem jfr0 {X : Nat → Int} {r a b c d e f g h : Int} (q : X = jfV r a b c d e f g h) (hr : r = 0) : X = jfV 0 a b c d e f g h := by rw [q, hr]
section JP4
variable {p : Program} {l : Launch} {e : Env} {R : Room} {s : State} {m : MethodId} {args : Array Value} {below : List Frame} {meth : Method} {c : Code} {H : Heap} {locs : List Loc} {cells slots : Nat} {Q : State → Prop}
variable {cc : ByteArray} {pc : Nat} {ls : Array Slot} {rest : List Value} {dC : Nat → ClassId} {dI : Nat → Nat → Nat} {ca : Nat → ClassId} {B : jF} {base : Nat} {G0 G : jT} {E : List (Nat × Nat)} {H0 : Heap} {zc zs : Nat} {L : List jPin} {M : List jCt} {I : List jIv} {a k n : Nat} {cA : ClassId} {tys : List (ClassId × FieldType)}
variable {P : Nat → Int32 → Prop}
end JP4
end
