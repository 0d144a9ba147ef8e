theorem dX14_goalsOf_0 : decode cX14_goalsOf 0 = .ok (.aload_n 0, 1) := by decide +kernel
theorem dX14_goalsOf_1 : decode cX14_goalsOf 1 = .ok (.getfield 122, 3) := by decide +kernel
theorem dX14_goalsOf_4 : decode cX14_goalsOf 4 = .ok (.getfield 637, 3) := by decide +kernel
theorem dX14_goalsOf_7 : decode cX14_goalsOf 7 = .ok (.ifCond .ne 11, 3) := by decide +kernel
theorem dX14_goalsOf_10 : decode cX14_goalsOf 10 = .ok (.aload_n 0, 1) := by decide +kernel
theorem dX14_goalsOf_11 : decode cX14_goalsOf 11 = .ok (.ldc_w 307, 3) := by decide +kernel
theorem dX14_goalsOf_14 : decode cX14_goalsOf 14 = .ok (.invokevirtual 189, 3) := by decide +kernel
theorem dX14_goalsOf_17 : decode cX14_goalsOf 17 = .ok (.return_, 1) := by decide +kernel
theorem dX14_goalsOf_18 : decode cX14_goalsOf 18 = .ok (.aload_n 0, 1) := by decide +kernel
theorem dX14_goalsOf_19 : decode cX14_goalsOf 19 = .ok (.ldc_w 640, 3) := by decide +kernel
theorem dX14_goalsOf_22 : decode cX14_goalsOf 22 = .ok (.invokevirtual 189, 3) := by decide +kernel
theorem dX14_goalsOf_25 : decode cX14_goalsOf 25 = .ok (.aload_n 0, 1) := by decide +kernel
theorem dX14_goalsOf_26 : decode cX14_goalsOf 26 = .ok (.getfield 122, 3) := by decide +kernel
theorem dX14_goalsOf_29 : decode cX14_goalsOf 29 = .ok (.iconst 0, 1) := by decide +kernel
theorem dX14_goalsOf_30 : decode cX14_goalsOf 30 = .ok (.putfield 634, 3) := by decide +kernel
theorem dX14_goalsOf_33 : decode cX14_goalsOf 33 = .ok (.aload_n 0, 1) := by decide +kernel
theorem dX14_goalsOf_34 : decode cX14_goalsOf 34 = .ok (.getfield 122, 3) := by decide +kernel
theorem dX14_goalsOf_37 : decode cX14_goalsOf 37 = .ok (.aload_n 0, 1) := by decide +kernel
theorem dX14_goalsOf_38 : decode cX14_goalsOf 38 = .ok (.getfield 122, 3) := by decide +kernel
theorem dX14_goalsOf_41 : decode cX14_goalsOf 41 = .ok (.getfield 642, 3) := by decide +kernel
theorem dX14_goalsOf_44 : decode cX14_goalsOf 44 = .ok (.invokevirtual 645, 3) := by decide +kernel
theorem dX14_goalsOf_47 : decode cX14_goalsOf 47 = .ok (.aload_n 0, 1) := by decide +kernel
theorem dX14_goalsOf_48 : decode cX14_goalsOf 48 = .ok (.iconst 0, 1) := by decide +kernel
theorem dX14_goalsOf_49 : decode cX14_goalsOf 49 = .ok (.invokevirtual 648, 3) := by decide +kernel
theorem dX14_goalsOf_52 : decode cX14_goalsOf 52 = .ok (.aload_n 0, 1) := by decide +kernel
theorem dX14_goalsOf_53 : decode cX14_goalsOf 53 = .ok (.ldc_w 651, 3) := by decide +kernel
theorem dX14_goalsOf_56 : decode cX14_goalsOf 56 = .ok (.invokevirtual 189, 3) := by decide +kernel
theorem dX14_goalsOf_59 : decode cX14_goalsOf 59 = .ok (.iconst 0, 1) := by decide +kernel
theorem dX14_goalsOf_60 : decode cX14_goalsOf 60 = .ok (.istore_n 1, 1) := by decide +kernel
theorem dX14_goalsOf_61 : decode cX14_goalsOf 61 = .ok (.iload_n 1, 1) := by decide +kernel
theorem dX14_goalsOf_62 : decode cX14_goalsOf 62 = .ok (.aload_n 0, 1) := by decide +kernel
theorem dX14_goalsOf_63 : decode cX14_goalsOf 63 = .ok (.getfield 122, 3) := by decide +kernel
theorem dX14_goalsOf_66 : decode cX14_goalsOf 66 = .ok (.getfield 653, 3) := by decide +kernel
theorem dX14_goalsOf_69 : decode cX14_goalsOf 69 = .ok (.if_icmp .ge 32, 3) := by decide +kernel
theorem dX14_goalsOf_72 : decode cX14_goalsOf 72 = .ok (.iload_n 1, 1) := by decide +kernel
theorem dX14_goalsOf_73 : decode cX14_goalsOf 73 = .ok (.ifCond .le 9, 3) := by decide +kernel
theorem dX14_goalsOf_76 : decode cX14_goalsOf 76 = .ok (.aload_n 0, 1) := by decide +kernel
theorem dX14_goalsOf_77 : decode cX14_goalsOf 77 = .ok (.bipush 44, 2) := by decide +kernel
theorem dX14_goalsOf_79 : decode cX14_goalsOf 79 = .ok (.invokevirtual 172, 3) := by decide +kernel
theorem dX14_goalsOf_82 : decode cX14_goalsOf 82 = .ok (.aload_n 0, 1) := by decide +kernel
theorem dX14_goalsOf_83 : decode cX14_goalsOf 83 = .ok (.getfield 122, 3) := by decide +kernel
theorem dX14_goalsOf_86 : decode cX14_goalsOf 86 = .ok (.iload_n 1, 1) := by decide +kernel
theorem dX14_goalsOf_87 : decode cX14_goalsOf 87 = .ok (.invokevirtual 656, 3) := by decide +kernel
theorem dX14_goalsOf_90 : decode cX14_goalsOf 90 = .ok (.aload_n 0, 1) := by decide +kernel
theorem dX14_goalsOf_91 : decode cX14_goalsOf 91 = .ok (.iconst 0, 1) := by decide +kernel
theorem dX14_goalsOf_92 : decode cX14_goalsOf 92 = .ok (.invokevirtual 648, 3) := by decide +kernel
theorem dX14_goalsOf_95 : decode cX14_goalsOf 95 = .ok (.iinc 1 1, 3) := by decide +kernel
theorem dX14_goalsOf_98 : decode cX14_goalsOf 98 = .ok (.goto (-37), 3) := by decide +kernel
theorem dX14_goalsOf_101 : decode cX14_goalsOf 101 = .ok (.aload_n 0, 1) := by decide +kernel
theorem dX14_goalsOf_102 : decode cX14_goalsOf 102 = .ok (.ldc_w 659, 3) := by decide +kernel
theorem dX14_goalsOf_105 : decode cX14_goalsOf 105 = .ok (.invokevirtual 189, 3) := by decide +kernel
theorem dX14_goalsOf_108 : decode cX14_goalsOf 108 = .ok (.return_, 1) := by decide +kernel
theorem dX14_statementOf_0 : decode cX14_statementOf 0 = .ok (.iconst (-1), 1) := by decide +kernel
theorem dX14_statementOf_1 : decode cX14_statementOf 1 = .ok (.istore 4, 2) := by decide +kernel
theorem dX14_statementOf_3 : decode cX14_statementOf 3 = .ok (.iconst (-1), 1) := by decide +kernel
theorem dX14_statementOf_4 : decode cX14_statementOf 4 = .ok (.istore 5, 2) := by decide +kernel
theorem dX14_statementOf_6 : decode cX14_statementOf 6 = .ok (.iconst 0, 1) := by decide +kernel
theorem dX14_statementOf_7 : decode cX14_statementOf 7 = .ok (.istore 6, 2) := by decide +kernel
theorem dX14_statementOf_9 : decode cX14_statementOf 9 = .ok (.iload 6, 2) := by decide +kernel
theorem dX14_statementOf_11 : decode cX14_statementOf 11 = .ok (.aload_n 0, 1) := by decide +kernel
theorem dX14_statementOf_12 : decode cX14_statementOf 12 = .ok (.getfield 122, 3) := by decide +kernel
theorem dX14_statementOf_15 : decode cX14_statementOf 15 = .ok (.getfield 661, 3) := by decide +kernel
theorem dX14_statementOf_18 : decode cX14_statementOf 18 = .ok (.if_icmp .ge 33, 3) := by decide +kernel
theorem dX14_statementOf_21 : decode cX14_statementOf 21 = .ok (.aload_n 0, 1) := by decide +kernel
theorem dX14_statementOf_22 : decode cX14_statementOf 22 = .ok (.aload_n 0, 1) := by decide +kernel
theorem dX14_statementOf_23 : decode cX14_statementOf 23 = .ok (.getfield 122, 3) := by decide +kernel
theorem dX14_statementOf_26 : decode cX14_statementOf 26 = .ok (.getfield 664, 3) := by decide +kernel
theorem dX14_statementOf_29 : decode cX14_statementOf 29 = .ok (.iload 6, 2) := by decide +kernel
theorem dX14_statementOf_31 : decode cX14_statementOf 31 = .ok (.iaload, 1) := by decide +kernel
theorem dX14_statementOf_32 : decode cX14_statementOf 32 = .ok (.aload_n 1, 1) := by decide +kernel
theorem dX14_statementOf_33 : decode cX14_statementOf 33 = .ok (.iload_n 2, 1) := by decide +kernel
theorem dX14_statementOf_34 : decode cX14_statementOf 34 = .ok (.iload_n 3, 1) := by decide +kernel
theorem dX14_statementOf_35 : decode cX14_statementOf 35 = .ok (.invokevirtual 667, 3) := by decide +kernel
theorem dX14_statementOf_38 : decode cX14_statementOf 38 = .ok (.ifCond .eq 7, 3) := by decide +kernel
theorem dX14_statementOf_41 : decode cX14_statementOf 41 = .ok (.iload 6, 2) := by decide +kernel
theorem dX14_statementOf_43 : decode cX14_statementOf 43 = .ok (.istore 4, 2) := by decide +kernel
theorem dX14_statementOf_45 : decode cX14_statementOf 45 = .ok (.iinc 6 1, 3) := by decide +kernel
theorem dX14_statementOf_48 : decode cX14_statementOf 48 = .ok (.goto (-39), 3) := by decide +kernel
theorem dX14_statementOf_51 : decode cX14_statementOf 51 = .ok (.iconst 0, 1) := by decide +kernel
theorem dX14_statementOf_52 : decode cX14_statementOf 52 = .ok (.istore 6, 2) := by decide +kernel
theorem dX14_statementOf_54 : decode cX14_statementOf 54 = .ok (.iload 6, 2) := by decide +kernel
theorem dX14_statementOf_56 : decode cX14_statementOf 56 = .ok (.aload_n 0, 1) := by decide +kernel
theorem dX14_statementOf_57 : decode cX14_statementOf 57 = .ok (.getfield 122, 3) := by decide +kernel
theorem dX14_statementOf_60 : decode cX14_statementOf 60 = .ok (.getfield 671, 3) := by decide +kernel
theorem dX14_statementOf_63 : decode cX14_statementOf 63 = .ok (.if_icmp .ge 33, 3) := by decide +kernel
theorem dX14_statementOf_66 : decode cX14_statementOf 66 = .ok (.aload_n 0, 1) := by decide +kernel
theorem dX14_statementOf_67 : decode cX14_statementOf 67 = .ok (.aload_n 0, 1) := by decide +kernel
theorem dX14_statementOf_68 : decode cX14_statementOf 68 = .ok (.getfield 122, 3) := by decide +kernel
theorem dX14_statementOf_71 : decode cX14_statementOf 71 = .ok (.getfield 674, 3) := by decide +kernel
theorem dX14_statementOf_74 : decode cX14_statementOf 74 = .ok (.iload 6, 2) := by decide +kernel
theorem dX14_statementOf_76 : decode cX14_statementOf 76 = .ok (.iaload, 1) := by decide +kernel
theorem dX14_statementOf_77 : decode cX14_statementOf 77 = .ok (.aload_n 1, 1) := by decide +kernel
theorem dX14_statementOf_78 : decode cX14_statementOf 78 = .ok (.iload_n 2, 1) := by decide +kernel
theorem dX14_statementOf_79 : decode cX14_statementOf 79 = .ok (.iload_n 3, 1) := by decide +kernel
theorem dX14_statementOf_80 : decode cX14_statementOf 80 = .ok (.invokevirtual 667, 3) := by decide +kernel
theorem dX14_statementOf_83 : decode cX14_statementOf 83 = .ok (.ifCond .eq 7, 3) := by decide +kernel
theorem dX14_statementOf_86 : decode cX14_statementOf 86 = .ok (.iload 6, 2) := by decide +kernel
theorem dX14_statementOf_88 : decode cX14_statementOf 88 = .ok (.istore 5, 2) := by decide +kernel
theorem dX14_statementOf_90 : decode cX14_statementOf 90 = .ok (.iinc 6 1, 3) := by decide +kernel
theorem dX14_statementOf_93 : decode cX14_statementOf 93 = .ok (.goto (-39), 3) := by decide +kernel
theorem dX14_statementOf_96 : decode cX14_statementOf 96 = .ok (.iload 4, 2) := by decide +kernel
theorem dX14_statementOf_98 : decode cX14_statementOf 98 = .ok (.ifCond .lt 36, 3) := by decide +kernel
theorem dX14_statementOf_101 : decode cX14_statementOf 101 = .ok (.aload_n 0, 1) := by decide +kernel
theorem dX14_statementOf_102 : decode cX14_statementOf 102 = .ok (.getfield 122, 3) := by decide +kernel
theorem dX14_statementOf_105 : decode cX14_statementOf 105 = .ok (.iconst 0, 1) := by decide +kernel
theorem dX14_statementOf_106 : decode cX14_statementOf 106 = .ok (.putfield 634, 3) := by decide +kernel
theorem dX14_statementOf_109 : decode cX14_statementOf 109 = .ok (.aload_n 0, 1) := by decide +kernel
theorem dX14_statementOf_110 : decode cX14_statementOf 110 = .ok (.getfield 122, 3) := by decide +kernel
theorem dX14_statementOf_113 : decode cX14_statementOf 113 = .ok (.aload_n 0, 1) := by decide +kernel
theorem dX14_statementOf_114 : decode cX14_statementOf 114 = .ok (.getfield 122, 3) := by decide +kernel
theorem dX14_statementOf_117 : decode cX14_statementOf 117 = .ok (.getfield 677, 3) := by decide +kernel
theorem dX14_statementOf_120 : decode cX14_statementOf 120 = .ok (.iload 4, 2) := by decide +kernel
theorem dX14_statementOf_122 : decode cX14_statementOf 122 = .ok (.iaload, 1) := by decide +kernel
theorem dX14_statementOf_123 : decode cX14_statementOf 123 = .ok (.invokevirtual 680, 3) := by decide +kernel
theorem dX14_statementOf_126 : decode cX14_statementOf 126 = .ok (.aload_n 0, 1) := by decide +kernel
theorem dX14_statementOf_127 : decode cX14_statementOf 127 = .ok (.iconst 0, 1) := by decide +kernel
theorem dX14_statementOf_128 : decode cX14_statementOf 128 = .ok (.invokevirtual 648, 3) := by decide +kernel
theorem dX14_statementOf_131 : decode cX14_statementOf 131 = .ok (.goto 32, 3) := by decide +kernel
theorem dX14_statementOf_134 : decode cX14_statementOf 134 = .ok (.iload 5, 2) := by decide +kernel
theorem dX14_statementOf_136 : decode cX14_statementOf 136 = .ok (.ifCond .lt 20, 3) := by decide +kernel
theorem dX14_statementOf_139 : decode cX14_statementOf 139 = .ok (.aload_n 0, 1) := by decide +kernel
theorem dX14_statementOf_140 : decode cX14_statementOf 140 = .ok (.aload_n 0, 1) := by decide +kernel
theorem dX14_statementOf_141 : decode cX14_statementOf 141 = .ok (.getfield 122, 3) := by decide +kernel
theorem dX14_statementOf_144 : decode cX14_statementOf 144 = .ok (.getfield 683, 3) := by decide +kernel
theorem dX14_statementOf_147 : decode cX14_statementOf 147 = .ok (.iload 5, 2) := by decide +kernel
theorem dX14_statementOf_149 : decode cX14_statementOf 149 = .ok (.iaload, 1) := by decide +kernel
theorem dX14_statementOf_150 : decode cX14_statementOf 150 = .ok (.invokevirtual 208, 3) := by decide +kernel
theorem dX14_statementOf_153 : decode cX14_statementOf 153 = .ok (.goto 10, 3) := by decide +kernel
theorem dX14_statementOf_156 : decode cX14_statementOf 156 = .ok (.aload_n 0, 1) := by decide +kernel
theorem dX14_statementOf_157 : decode cX14_statementOf 157 = .ok (.ldc_w 307, 3) := by decide +kernel
theorem dX14_statementOf_160 : decode cX14_statementOf 160 = .ok (.invokevirtual 189, 3) := by decide +kernel
theorem dX14_statementOf_163 : decode cX14_statementOf 163 = .ok (.return_, 1) := by decide +kernel
theorem dX14_verdict_0 : decode cX14_verdict 0 = .ok (.iload_n 1, 1) := by decide +kernel
theorem dX14_verdict_1 : decode cX14_verdict 1 = .ok (.ifCond .lt 14, 3) := by decide +kernel
theorem dX14_verdict_4 : decode cX14_verdict 4 = .ok (.iload_n 1, 1) := by decide +kernel
theorem dX14_verdict_5 : decode cX14_verdict 5 = .ok (.aload_n 0, 1) := by decide +kernel
theorem dX14_verdict_6 : decode cX14_verdict 6 = .ok (.getfield 151, 3) := by decide +kernel
theorem dX14_verdict_9 : decode cX14_verdict 9 = .ok (.getfield 587, 3) := by decide +kernel
theorem dX14_verdict_12 : decode cX14_verdict 12 = .ok (.if_icmp .lt 5, 3) := by decide +kernel
theorem dX14_verdict_15 : decode cX14_verdict 15 = .ok (.iconst (-1), 1) := by decide +kernel
theorem dX14_verdict_16 : decode cX14_verdict 16 = .ok (.ireturn, 1) := by decide +kernel
theorem dX14_verdict_17 : decode cX14_verdict 17 = .ok (.iload_n 2, 1) := by decide +kernel
theorem dX14_verdict_18 : decode cX14_verdict 18 = .ok (.tableswitch 92 0 5 #[38, 48, 58, 68, 78, 85], 38) := by decide +kernel
theorem dX14_verdict_56 : decode cX14_verdict 56 = .ok (.aload_n 0, 1) := by decide +kernel
theorem dX14_verdict_57 : decode cX14_verdict 57 = .ok (.getfield 151, 3) := by decide +kernel
theorem dX14_verdict_60 : decode cX14_verdict 60 = .ok (.getfield 596, 3) := by decide +kernel
theorem dX14_verdict_63 : decode cX14_verdict 63 = .ok (.iload_n 1, 1) := by decide +kernel
theorem dX14_verdict_64 : decode cX14_verdict 64 = .ok (.iaload, 1) := by decide +kernel
theorem dX14_verdict_65 : decode cX14_verdict 65 = .ok (.ireturn, 1) := by decide +kernel
theorem dX14_verdict_66 : decode cX14_verdict 66 = .ok (.aload_n 0, 1) := by decide +kernel
theorem dX14_verdict_67 : decode cX14_verdict 67 = .ok (.getfield 151, 3) := by decide +kernel
theorem dX14_verdict_70 : decode cX14_verdict 70 = .ok (.getfield 594, 3) := by decide +kernel
theorem dX14_verdict_73 : decode cX14_verdict 73 = .ok (.iload_n 1, 1) := by decide +kernel
theorem dX14_verdict_74 : decode cX14_verdict 74 = .ok (.iaload, 1) := by decide +kernel
theorem dX14_verdict_75 : decode cX14_verdict 75 = .ok (.ireturn, 1) := by decide +kernel
theorem dX14_verdict_76 : decode cX14_verdict 76 = .ok (.aload_n 0, 1) := by decide +kernel
theorem dX14_verdict_77 : decode cX14_verdict 77 = .ok (.getfield 151, 3) := by decide +kernel
theorem dX14_verdict_80 : decode cX14_verdict 80 = .ok (.getfield 751, 3) := by decide +kernel
theorem dX14_verdict_83 : decode cX14_verdict 83 = .ok (.iload_n 1, 1) := by decide +kernel
theorem dX14_verdict_84 : decode cX14_verdict 84 = .ok (.iaload, 1) := by decide +kernel
theorem dX14_verdict_85 : decode cX14_verdict 85 = .ok (.ireturn, 1) := by decide +kernel
theorem dX14_verdict_86 : decode cX14_verdict 86 = .ok (.aload_n 0, 1) := by decide +kernel
theorem dX14_verdict_87 : decode cX14_verdict 87 = .ok (.aload_n 0, 1) := by decide +kernel
theorem dX14_verdict_88 : decode cX14_verdict 88 = .ok (.getfield 151, 3) := by decide +kernel
theorem dX14_verdict_91 : decode cX14_verdict 91 = .ok (.iload_n 1, 1) := by decide +kernel
theorem dX14_verdict_92 : decode cX14_verdict 92 = .ok (.invokevirtual 789, 3) := by decide +kernel
theorem dX14_verdict_95 : decode cX14_verdict 95 = .ok (.ireturn, 1) := by decide +kernel
theorem dX14_verdict_96 : decode cX14_verdict 96 = .ok (.aload_n 0, 1) := by decide +kernel
theorem dX14_verdict_97 : decode cX14_verdict 97 = .ok (.getfield 154, 3) := by decide +kernel
theorem dX14_verdict_100 : decode cX14_verdict 100 = .ok (.iload_n 1, 1) := by decide +kernel
theorem dX14_verdict_101 : decode cX14_verdict 101 = .ok (.iaload, 1) := by decide +kernel
theorem dX14_verdict_102 : decode cX14_verdict 102 = .ok (.ireturn, 1) := by decide +kernel
theorem dX14_verdict_103 : decode cX14_verdict 103 = .ok (.aload_n 0, 1) := by decide +kernel
theorem dX14_verdict_104 : decode cX14_verdict 104 = .ok (.getfield 157, 3) := by decide +kernel
theorem dX14_verdict_107 : decode cX14_verdict 107 = .ok (.iload_n 1, 1) := by decide +kernel
theorem dX14_verdict_108 : decode cX14_verdict 108 = .ok (.iaload, 1) := by decide +kernel
theorem dX14_verdict_109 : decode cX14_verdict 109 = .ok (.ireturn, 1) := by decide +kernel
theorem dX14_verdict_110 : decode cX14_verdict 110 = .ok (.iconst (-1), 1) := by decide +kernel
theorem dX14_verdict_111 : decode cX14_verdict 111 = .ok (.ireturn, 1) := by decide +kernel
theorem dX14_goals_0 : decode cX14_goals 0 = .ok (.iload_n 1, 1) := by decide +kernel
theorem dX14_goals_1 : decode cX14_goals 1 = .ok (.iconst (-1), 1) := by decide +kernel
theorem dX14_goals_2 : decode cX14_goals 2 = .ok (.if_icmp .lt 14, 3) := by decide +kernel
theorem dX14_goals_5 : decode cX14_goals 5 = .ok (.iload_n 1, 1) := by decide +kernel
theorem dX14_goals_6 : decode cX14_goals 6 = .ok (.aload_n 0, 1) := by decide +kernel
theorem dX14_goals_7 : decode cX14_goals 7 = .ok (.getfield 151, 3) := by decide +kernel
theorem dX14_goals_10 : decode cX14_goals 10 = .ok (.getfield 587, 3) := by decide +kernel
theorem dX14_goals_13 : decode cX14_goals 13 = .ok (.if_icmp .lt 5, 3) := by decide +kernel
theorem dX14_goals_16 : decode cX14_goals 16 = .ok (.iconst (-1), 1) := by decide +kernel
theorem dX14_goals_17 : decode cX14_goals 17 = .ok (.ireturn, 1) := by decide +kernel
theorem dX14_goals_18 : decode cX14_goals 18 = .ok (.aload_n 0, 1) := by decide +kernel
theorem dX14_goals_19 : decode cX14_goals 19 = .ok (.aload_n 0, 1) := by decide +kernel
theorem dX14_goals_20 : decode cX14_goals 20 = .ok (.getfield 151, 3) := by decide +kernel
theorem dX14_goals_23 : decode cX14_goals 23 = .ok (.iload_n 1, 1) := by decide +kernel
theorem dX14_goals_24 : decode cX14_goals 24 = .ok (.iconst 1, 1) := by decide +kernel
theorem dX14_goals_25 : decode cX14_goals 25 = .ok (.iadd, 1) := by decide +kernel
theorem dX14_goals_26 : decode cX14_goals 26 = .ok (.invokevirtual 697, 3) := by decide +kernel
theorem dX14_goals_29 : decode cX14_goals 29 = .ok (.aload_n 0, 1) := by decide +kernel
theorem dX14_goals_30 : decode cX14_goals 30 = .ok (.iconst 0, 1) := by decide +kernel
theorem dX14_goals_31 : decode cX14_goals 31 = .ok (.putfield 160, 3) := by decide +kernel
theorem dX14_goals_34 : decode cX14_goals 34 = .ok (.aload_n 0, 1) := by decide +kernel
theorem dX14_goals_35 : decode cX14_goals 35 = .ok (.invokevirtual 700, 3) := by decide +kernel
theorem dX14_goals_38 : decode cX14_goals 38 = .ok (.iload_n 2, 1) := by decide +kernel
theorem dX14_goals_39 : decode cX14_goals 39 = .ok (.ifCond .lt 20, 3) := by decide +kernel
theorem dX14_goals_42 : decode cX14_goals 42 = .ok (.iload_n 2, 1) := by decide +kernel
theorem dX14_goals_43 : decode cX14_goals 43 = .ok (.aload_n 0, 1) := by decide +kernel
theorem dX14_goals_44 : decode cX14_goals 44 = .ok (.getfield 160, 3) := by decide +kernel
theorem dX14_goals_47 : decode cX14_goals 47 = .ok (.if_icmp .ge 12, 3) := by decide +kernel
theorem dX14_goals_50 : decode cX14_goals 50 = .ok (.aload_n 0, 1) := by decide +kernel
theorem dX14_goals_51 : decode cX14_goals 51 = .ok (.getfield 17, 3) := by decide +kernel
theorem dX14_goals_54 : decode cX14_goals 54 = .ok (.iload_n 2, 1) := by decide +kernel
theorem dX14_goals_55 : decode cX14_goals 55 = .ok (.iaload, 1) := by decide +kernel
theorem dX14_goals_56 : decode cX14_goals 56 = .ok (.goto 4, 3) := by decide +kernel
theorem dX14_goals_59 : decode cX14_goals 59 = .ok (.iconst (-1), 1) := by decide +kernel
theorem dX14_goals_60 : decode cX14_goals 60 = .ok (.ireturn, 1) := by decide +kernel
def EX14_goalsOf : List (Nat × Nat) := [(15, 46), (15, 49), (16, 6), (101, 0), (163, 0), (164, 0)]
def EX14_statementOf : List (Nat × Nat) := [(15, 46), (15, 49), (16, 6), (101, 0), (163, 0), (164, 0)]
def EX14_goals : List (Nat × Nat) := [(15, 5), (15, 7), (15, 10), (15, 11), (15, 15), (15, 18), (15, 19), (15, 20), (15, 21), (15, 30), (15, 31), (15, 32), (15, 33), (15, 34), (15, 36), (15, 38), (15, 39), (15, 40), (15, 41), (15, 42), (15, 46), (15, 49), (16, 6), (101, 0), (103, 0), (150, 0), (151, 0), (152, 0), (153, 0), (154, 0), (155, 0), (156, 0), (157, 0), (158, 0), (159, 0), (160, 0), (161, 0), (162, 0), (163, 0), (164, 0), (165, 0), (166, 0), (167, 0), (168, 0), (169, 0)]
def EX14_verdict : List (Nat × Nat) := [(15, 5), (15, 7), (15, 10), (15, 11), (15, 15), (15, 18), (15, 21), (15, 30), (15, 31), (155, 0), (156, 0), (157, 0), (166, 0), (167, 0)]
set_option maxHeartbeats 4000000 in
set_option maxRecDepth 20000 in
theorem uX14_goalsOf (l : Launch) (dC : Nat → ClassId) (dI : Nat → Nat → Nat) (ca : Nat → ClassId) (base : Nat) (B : jF) (hB : jBok B) (hAp : jAp (dC, dI)) (hB15 : ∀ n G a H, B 15 n G a H ↔ jOb (dC, dI) 15 50 (F15 n G) a H) (hB16 : ∀ n G a H, B 16 n G a H ↔ jOb (dC, dI) 16 74 (F16 n G) a H) (hB101 : ∀ n G a H, B 101 n G a H ↔ jAr (dC, dI) (ca 1) (fun j z => True) n a H) (hB150 : ∀ n G a H, B 150 n G a H ↔ jAr (dC, dI) (ca 1) (fun j z => True) n a H) (hB151 : ∀ n G a H, B 151 n G a H ↔ jAr (dC, dI) (ca 1) (fun j z => True) n a H) (hB152 : ∀ n G a H, B 152 n G a H ↔ jAr (dC, dI) (ca 1) (fun j z => True) n a H) (hB153 : ∀ n G a H, B 153 n G a H ↔ jAr (dC, dI) (ca 1) (fun j z => True) n a H) (hB154 : ∀ n G a H, B 154 n G a H ↔ jAr (dC, dI) (ca 1) (fun j z => True) n a H) (hB155 : ∀ n G a H, B 155 n G a H ↔ jAr (dC, dI) (ca 1) (fun j z => 0 ≤ z.toInt ∧ z.toInt ≤ 11990) n a H) (hB156 : ∀ n G a H, B 156 n G a H ↔ jAr (dC, dI) (ca 1) (fun j z => 0 ≤ z.toInt ∧ z.toInt ≤ 10) n a H) (hB158 : ∀ n G a H, B 158 n G a H ↔ jAr (dC, dI) (ca 1) (fun j z => 0 ≤ z.toInt ∧ z.toInt ≤ 6) n a H) (hB159 : ∀ n G a H, B 159 n G a H ↔ jAr (dC, dI) (ca 1) (fun j z => 0 ≤ z.toInt ∧ z.toInt ≤ 8) n a H) (hB161 : ∀ n G a H, B 161 n G a H ↔ jAr (dC, dI) (ca 1) (fun j z => 0 ≤ z.toInt ∧ z.toInt ≤ 119999) n a H) (hB162 : ∀ n G a H, B 162 n G a H ↔ jAr (dC, dI) (ca 1) (fun j z => 0 ≤ z.toInt ∧ z.toInt ≤ 119999) n a H) (hB163 : ∀ n G a H, B 163 n G a H ↔ jAr (dC, dI) (ca 1) (fun j z => 0 ≤ z.toInt ∧ z.toInt ≤ 1599) n a H) (hB164 : ∀ n G a H, B 164 n G a H ↔ jAr (dC, dI) (ca 1) (fun j z => 0 ≤ z.toInt ∧ z.toInt ≤ 100000) n a H) (hB165 : ∀ n G a H, B 165 n G a H ↔ jAr (dC, dI) (ca 1) (fun j z => 0 ≤ z.toInt ∧ z.toInt ≤ 3) n a H) (hB166 : ∀ n G a H, B 166 n G a H ↔ jAr (dC, dI) (ca 1) (fun j z => True) n a H) (G0 : jT) (H0 : Heap) (r0 : Nat) (kr : Nat) (pg : Int32) (zg : Nat) (zh : Nat) (zp : Nat) (zs : Nat) (zn : Nat) (za : Nat) (zb : Nat) (zc : Nat) (zy : Nat) (gN : Int) (gY : Int) (fg : Nat → Int32) (fh : Nat → Int32) (fp : Nat → Int32) (C : jK) : Met l yX14_goalsOf (jw yX14_goalsOf cX14_goalsOf 2 none) ({ frames := 253, cells := 0, slots := 0, locals := 8266 }) (va_Pc [.ref r0] (fun U => U.heap = H0 ∧ jX B base G0 [] H0 ∧ jG dC dI ca base U ∧ G0 r0 = some (16, 0) ∧ G0 kr = some (15, 0) ∧ G0 zg = some (161, 46) ∧ G0 zh = some (159, 46) ∧ G0 zp = some (162, 368) ∧ G0 zs = some (150, 120000) ∧ G0 zn = some (151, 120000) ∧ G0 za = some (152, 120000) ∧ G0 zb = some (153, 120000) ∧ G0 zc = some (154, 120000) ∧ G0 zy = some (165, 16) ∧ jP (dC, dI) G0 H0 [(r0, 16, 58, .ref kr), (kr, 15, 21, .int pg), (kr, 15, 22, .ref zg), (kr, 15, 25, .ref zh), (kr, 15, 27, .ref zp), (kr, 15, 0, .ref zs), (kr, 15, 1, .ref zn), (kr, 15, 2, .ref za), (kr, 15, 3, .ref zb), (kr, 15, 4, .ref zc), (kr, 15, 14, .ref zy)] ∧ jMc (dC, dI) G0 H0 [(zg, 161, 46, ca 1, fg), (zh, 159, 46, ca 1, fh), (zp, 162, 368, ca 1, fp), (zs, 150, 120000, ca 1, C.s), (zn, 151, 120000, ca 1, C.n), (za, 152, 120000, ca 1, C.a), (zb, 153, 120000, ca 1, C.b), (zc, 154, 120000, ca 1, C.c), (zy, 165, 16, ca 1, C.y)] ∧ jGl (jG1 C gN gY) fg fh fp pg.toInt ∧ 0 ≤ pg.toInt ∧ pg.toInt ≤ 6 ∧ gN ≤ 120000 ∧ gY ≤ 16)) (va_Qv (S := Unit) (fun u => True) (fun u t => jRt (dC, dI) B base G0 EX14_goalsOf H0 [] t.heap) (jA base)) 0 0 (jA base) := by
  refine Met.ofW (cc := cX14_goalsOf) (maxL := 2) (ret := none) (by decide) rfl ?_
  intro p e s m args below meth c s₁ Bd hml hv
  obtain ⟨rfl, hH0, hX, hG, hg_r0, hg_kr, hg_zg, hg_zh, hg_zp, hg_zs, hg_zn, hg_za, hg_zb, hg_zc, hg_zy, hP0, hM0, hp0, hp1, hp2, hp3, hp4⟩ := hv
  have hK := hG.1
  have hx := Bd.exec
  have hb := Bd.bytes
  have hr := Bd.returns
  have hts := atoms_spec (ws := (jw yX14_goalsOf cX14_goalsOf 2 none)) Bd.pre
  have htw : ∀ w ∈ jWl, w.before _ s = true := fun w h => hts w (List.mem_cons_of_mem _ h)
  have hown : s.vm.findClass RX14 = some m.cls := findClass_of_methodNamed Bd.named
  have hlocks := Bd.notSynchronized
  obtain ⟨Q, hQ⟩ : ∃ Q, Q = MQ below (va_Qv (S := Unit) (fun u => True) (fun u t => jRt (dC, dI) B base G0 EX14_goalsOf H0 [] t.heap) (jA base)) ([.ref r0] : List Value).toArray s 0 0 (jA base) := ⟨_, rfl⟩
  rw [← hQ]
  have hl := lv_entry ([.ref r0]) (n := 2) (Nat.le_of_ble_eq_true rfl)
  rw [lg_entry_eq]
  generalize (lg_sl ([.ref r0]) ++ List.replicate (2 - (lg_sl ([.ref r0])).length) Slot.unset).toArray = ls at hl ⊢
  have hl : lv_has ls 2 [(0, .ref r0)] := hl
  generalize hR : (headSpec (jw yX14_goalsOf cX14_goalsOf 2 none) ({ frames := 253, cells := 0, slots := 0, locals := 8266 })).room = R
  subst hH0
  have hh : jSt (dC, dI) B base G0 G0 EX14_goalsOf s.heap 0 0 [(r0, 16, 58, .ref kr), (kr, 15, 21, .int pg), (kr, 15, 22, .ref zg), (kr, 15, 25, .ref zh), (kr, 15, 27, .ref zp), (kr, 15, 0, .ref zs), (kr, 15, 1, .ref zn), (kr, 15, 2, .ref za), (kr, 15, 3, .ref zb), (kr, 15, 4, .ref zc), (kr, 15, 14, .ref zy)] [(zg, 161, 46, ca 1, fg), (zh, 159, 46, ca 1, fh), (zp, 162, 368, ca 1, fp), (zs, 150, 120000, ca 1, C.s), (zn, 151, 120000, ca 1, C.n), (za, 152, 120000, ca 1, C.a), (zb, 153, 120000, ca 1, C.b), (zc, 154, 120000, ca 1, C.c), (zy, 165, 16, ca 1, C.y)] [] s.heap [] := jSt.start hX hP0 hM0 jIs.nil
  clear hX hP0
  have hk0 : (0 : Int32).toInt = 0 := by decide
  have hk1 : (1 : Int32).toInt = 1 := by decide
  have hk44 : (44 : Int32).toInt = 44 := by decide
  have hly_15_18 := htw (u_lay RX13 TX13 18) (jWc_wsX130 _ (u_in_lay (by decide)))
  have hly_15_19 := htw (u_lay RX13 TX13 19) (jWc_wsX130 _ (u_in_lay (by decide)))
  have hly_15_21 := htw (u_lay RX13 TX13 21) (jWc_wsX130 _ (u_in_lay (by decide)))
  have hly_15_46 := htw (u_lay RX13 TX13 46) (jWc_wsX130 _ (u_in_lay (by decide)))
  have hly_16_58 := htw (u_lay RX14 TX14 58) (jWc_wsX140 _ (u_in_lay (by decide)))
  have hlk_122 := (htw (.fieldLink RX14 122 "ProofServerModel" "kernel" "LProofServerModel$Kernel;") (jWr_12 _ (List.mem_of_getElem? (i := 13) rfl)))
  have hlk_637 := (va_Nw.use (A := ([.ref r0] : List Value).toArray) rfl (hG.2.1 RX14 637 "ProofServerModel$Kernel" "proof" "Z" "ProofServerModel" (List.mem_of_getElem? (i := 1808) (by decide +kernel))))
  obtain ⟨str307, rstr307, hstr3070⟩ := hG.str (o := RX14) (k := 307) (tx := "null") (List.mem_of_getElem? (i := 2366) (by decide +kernel))
  have hstr307 : jStr base str307 4 s s.heap := hstr3070
  obtain ⟨str640, rstr640, hstr6400⟩ := hG.str (o := RX14) (k := 640) (tx := "{\"proof\":") (List.mem_of_getElem? (i := 2805) (by decide +kernel))
  have hstr640 : jStr base str640 9 s s.heap := hstr6400
  have hlk_634 := (va_Nw.use (A := ([.ref r0] : List Value).toArray) rfl (hG.2.1 RX14 634 "ProofServerModel$Kernel" "lines" "I" "ProofServerModel" (List.mem_of_getElem? (i := 1840) (by decide +kernel))))
  have hlk_642 := (va_Nw.use (A := ([.ref r0] : List Value).toArray) rfl (hG.2.1 RX14 642 "ProofServerModel$Kernel" "lemmaName" "I" "ProofServerModel" (List.mem_of_getElem? (i := 1810) (by decide +kernel))))
  obtain ⟨str651, rstr651, hstr6510⟩ := hG.str (o := RX14) (k := 651) (tx := ",\"goals\":[") (List.mem_of_getElem? (i := 2818) (by decide +kernel))
  have hstr651 : jStr base str651 10 s s.heap := hstr6510
  have hlk_653 := (va_Nw.use (A := ([.ref r0] : List Value).toArray) rfl (hG.2.1 RX14 653 "ProofServerModel$Kernel" "goals" "I" "ProofServerModel" (List.mem_of_getElem? (i := 1813) (by decide +kernel))))
  obtain ⟨str659, rstr659, hstr6590⟩ := hG.str (o := RX14) (k := 659) (tx := "]}") (List.mem_of_getElem? (i := 2869) (by decide +kernel))
  have hstr659 : jStr base str659 2 s s.heap := hstr6590
  refine lv_aload_n hx hb dX14_goalsOf_0 rfl (lv_at hl 0 rfl) ?_
  refine j7_read hx hb hown hK (C := RX14) (T := TX14) (N := 74) rfl hly_16_58 hlk_122 (hh.at 0 rfl) dX14_goalsOf_1 ?_
  obtain ⟨v_1, hv_1, hh_2⟩ := hh.pin (C := RX13) (T := TX13) (N := 50) hB15 rfl (by decide) hg_kr (i := 18) (by decide) rfl
  clear hh
  obtain ⟨proof_3, rfl, hzproof_3⟩ := hv_1
  have hzproof_3' := jb_01 hzproof_3
  refine j7_readN hx hb hown hK (C := RX13) (T := TX13) (N := 50) rfl hly_15_18 hlk_637 (hh_2.at 0 rfl) dX14_goalsOf_4 ?_
  refine lv_if_ne (tgt := 18) hx hb dX14_goalsOf_7 (by decide) (fun c_4 => ?_) (fun c_4 => ?_)
  · skip
    have c_4' : proof_3.toInt ≠ 0 := jb_ne (rfl) ((by decide)) c_4
    refine lv_aload_n hx hb dX14_goalsOf_18 rfl (lv_at hl 0 rfl) ?_
    refine j_ldcSw hx hb hown rstr640 dX14_goalsOf_19 ?_
    obtain ⟨v_7, hv_7, hh_8⟩ := hh_2.pin (C := RX14) (T := TX14) (N := 74) hB16 rfl (by decide) hg_r0 (i := 6) (by decide) rfl
    obtain ⟨framed_9, rfl, hloframed_9, hhiframed_9⟩ := hv_7
    refine va_callv (A0 := jA base) (H0 := s.heap) (va_runV (As := [.ref str640]) (rest := []) ⟨hx, hb, hml, hown, hts⟩ (uX14_word l dC dI ca base B hB hAp hB16 hB101 G0 s.heap r0 str640 9 framed_9) (cwV 1 hts (jgV (jWr_53 _ (List.mem_of_getElem? (i := 22) rfl)) (jWr_53 _ (List.mem_of_getElem? (i := 23) rfl)) (jWr_54 _ (List.mem_of_getElem? (i := 0) rfl)) (jWr_1 _ (List.mem_of_getElem? (i := 5) rfl)) (jWr_54 _ (List.mem_of_getElem? (i := 1) rfl))) rfl rfl rfl (by decide +kernel) ⟨by rw [← hR]; exact Nat.le_of_ble_eq_true rfl, by rw [← hR]; exact Nat.le_of_ble_eq_true rfl⟩) ⟨fun a U g mk q => by obtain ⟨q0, q1, q2, qK, q10, q11, q12, q13⟩ := q; exact ⟨q0, q1, q2, jG.calling g mk a qK, (q10.moved (Vm.Alike.refl U.vm)), q11, q12, q13⟩, hh_8.recv (C := RX14) (T := TX14) (N := 74) hB16 rfl (by decide) hg_r0 hK, fun U hU hW => ⟨rfl, hU, hh_8.2.1, hG.step hW hU hh_8.1, (hstr640.moved hW.alike).kept hh_8.1.2.1, hg_r0, (hh_8.2.2.1.sub (L1 := [(r0, 16, 6, .int framed_9)]) [0] rfl), by first | omega | (refine ⟨?_, ?_, ?_⟩ <;> (first | omega | rfl | assumption | decide | exact Or.inl rfl | exact Or.inr rfl | (simp only; omega)))⟩⟩ rfl rfl hl.1 rfl (lv_room (Nat.le_of_ble_eq_true rfl)) dX14_goalsOf_22 ⟨Nat.zero_le _, Nat.zero_le _⟩) hh_8.1 (fun q _ h => h) (fun q h => h) (fun u_5 t_5 H_5 locs_5 ht_5 hvm_5 hr_6 hb_5 hz_5 hk_5 hS_5 => ?_)
    obtain ⟨qf_5, rfl⟩ : ∃ z, z = u_5 := ⟨_, rfl⟩
    rw [ht_5] at hb_5
    obtain ⟨hb_51, hb_52, hb_53, hb_54, hb_55⟩ := hb_5
    have hh_5 : jSt (dC, dI) B base G0 G0 EX14_goalsOf s.heap 0 0 [(r0, 16, 6, .int qf_5), (kr, 15, 18, .int proof_3), (r0, 16, 58, .ref kr), (kr, 15, 21, .int pg), (kr, 15, 22, .ref zg), (kr, 15, 25, .ref zh), (kr, 15, 27, .ref zp), (kr, 15, 0, .ref zs), (kr, 15, 1, .ref zn), (kr, 15, 2, .ref za), (kr, 15, 3, .ref zb), (kr, 15, 4, .ref zc), (kr, 15, 14, .ref zy)] [(zg, 161, 46, ca 1, fg), (zh, 159, 46, ca 1, fh), (zp, 162, 368, ca 1, fp), (zs, 150, 120000, ca 1, C.s), (zn, 151, 120000, ca 1, C.n), (za, 152, 120000, ca 1, C.a), (zb, 153, 120000, ca 1, C.b), (zc, 154, 120000, ca 1, C.c), (zy, 165, 16, ca 1, C.y)] [] H_5 locs_5 := ((hh_8.call hb_51 hb_52 hb_53 hb_54 hS_5 rfl (L1 := [(kr, 15, 18, .int proof_3), (r0, 16, 58, .ref kr), (kr, 15, 21, .int pg), (kr, 15, 22, .ref zg), (kr, 15, 25, .ref zh), (kr, 15, 27, .ref zp), (kr, 15, 0, .ref zs), (kr, 15, 1, .ref zn), (kr, 15, 2, .ref za), (kr, 15, 3, .ref zb), (kr, 15, 4, .ref zc), (kr, 15, 14, .ref zy)]) [1, 2, 3, 4, 5, 6, 7, 8, 9, 10, 11, 12] rfl rfl (M1 := [(zg, 161, 46, ca 1, fg), (zh, 159, 46, ca 1, fh), (zp, 162, 368, ca 1, fp), (zs, 150, 120000, ca 1, C.s), (zn, 151, 120000, ca 1, C.n), (za, 152, 120000, ca 1, C.a), (zb, 153, 120000, ca 1, C.b), (zc, 154, 120000, ca 1, C.c), (zy, 165, 16, ca 1, C.y)]) [0, 1, 2, 3, 4, 5, 6, 7, 8] rfl rfl (I1 := []) [] rfl rfl).more hb_55)
    clear hh_8 ht_5 hvm_5 hz_5 hk_5 hS_5 hb_51 hb_52 hb_53 hb_54 hb_55
    obtain ⟨hr_6_0, hr_6_1⟩ := hr_6
    refine lv_aload_n hx hb dX14_goalsOf_25 rfl (lv_at hl 0 rfl) ?_
    refine j7_read hx hb hown hK (C := RX14) (T := TX14) (N := 74) rfl hly_16_58 hlk_122 (hh_5.at 2 rfl) dX14_goalsOf_26 ?_
    refine lv_iconst (v := 0) hx hb dX14_goalsOf_29 (by decide) ?_
    refine j7_putN hx hb hown hK hh_5 hB hAp hB15 (C := RX13) (T := TX13) (N := 50) rfl (by decide) hg_kr (i := 46) (by decide) hly_15_46 rfl hlk_634 rfl (ty := .int) (v := .int 0) (by decide +kernel) rfl rfl (⟨_, rfl, by omega, by omega⟩) rfl (L1 := [(r0, 16, 6, .int qf_5), (kr, 15, 18, .int proof_3), (r0, 16, 58, .ref kr), (kr, 15, 21, .int pg), (kr, 15, 22, .ref zg), (kr, 15, 25, .ref zh), (kr, 15, 27, .ref zp), (kr, 15, 0, .ref zs), (kr, 15, 1, .ref zn), (kr, 15, 2, .ref za), (kr, 15, 3, .ref zb), (kr, 15, 4, .ref zc), (kr, 15, 14, .ref zy)]) [0, 1, 2, 3, 4, 5, 6, 7, 8, 9, 10, 11, 12] rfl rfl rfl dX14_goalsOf_30 (fun H_10 locs_10 hh_10 => ?_)
    clear hh_5
    refine lv_aload_n hx hb dX14_goalsOf_33 rfl (lv_at hl 0 rfl) ?_
    refine j7_read hx hb hown hK (C := RX14) (T := TX14) (N := 74) rfl hly_16_58 hlk_122 (hh_10.at 3 rfl) dX14_goalsOf_34 ?_
    refine lv_aload_n hx hb dX14_goalsOf_37 rfl (lv_at hl 0 rfl) ?_
    refine j7_read hx hb hown hK (C := RX14) (T := TX14) (N := 74) rfl hly_16_58 hlk_122 (hh_10.at 3 rfl) dX14_goalsOf_38 ?_
    obtain ⟨v_11, hv_11, hh_12⟩ := hh_10.pin (C := RX13) (T := TX13) (N := 50) hB15 rfl (by decide) hg_kr (i := 19) (by decide) rfl
    clear hh_10
    obtain ⟨lemmaName_13, rfl, hlolemmaName_13, hhilemmaName_13⟩ := hv_11
    refine j7_readN hx hb hown hK (C := RX13) (T := TX13) (N := 50) rfl hly_15_19 hlk_642 (hh_12.at 0 rfl) dX14_goalsOf_41 ?_
    refine va_callv (A0 := jA base) (H0 := s.heap) (va_runVN (As := [.int lemmaName_13]) (rest := []) ⟨hx, hb, hml, hown, hts⟩ (uX13_putName l dC dI ca base B hB hAp hB15 hB101 hB155 hB156 hB166 G0 H_10 kr lemmaName_13) ⟨va_cnB 1 hts (jgW (jWr_70 _ (List.mem_of_getElem? (i := 5) rfl))) rfl rfl rfl (hG.2.2.1 RX14 645 yX13_putName "ProofServerModel" (List.mem_of_getElem? (i := 2806) (by decide +kernel))) (htw (.initialized RX13) (jWr_12 _ (List.mem_of_getElem? (i := 12) rfl))) (by decide +kernel) ⟨by rw [← hR]; exact Nat.le_of_ble_eq_true rfl, by rw [← hR]; exact Nat.le_of_ble_eq_true rfl⟩, htw (.instanceMethod yX13_putName) (jWr_70 _ (List.mem_of_getElem? (i := 3) rfl)), htw (.selects RX13 yX13_putName yX13_putName) (jWr_70 _ (List.mem_of_getElem? (i := 4) rfl))⟩ ⟨fun a U g mk q => by obtain ⟨q0, q1, q2, qK, q10, q11, q12⟩ := q; exact ⟨q0, q1, q2, jG.calling g mk a qK, q10, q11, q12⟩, hh_12.recv (C := RX13) (T := TX13) (N := 50) hB15 rfl (by decide) hg_kr hK, fun U hU hW => ⟨rfl, hU, hh_12.2.1, hG.step hW hU hh_12.1, hg_kr, jP.nil, by first | omega | (refine ⟨?_, ?_⟩ <;> (first | omega | rfl | assumption | decide | exact Or.inl rfl | exact Or.inr rfl | (simp only; omega)))⟩⟩ rfl rfl hl.1 rfl (lv_room (Nat.le_of_ble_eq_true rfl)) dX14_goalsOf_44 ⟨Nat.zero_le _, Nat.zero_le _⟩) hh_12.1 (fun q _ h => h) (fun q h => h) (fun u_14 t_14 H_14 locs_14 ht_14 hvm_14 hr_15 hb_14 hz_14 hk_14 hS_14 => ?_)
    rw [ht_14] at hb_14
    obtain ⟨hb_141, hb_142, hb_143, hb_144, hb_145⟩ := hb_14
    have hh_14 : jSt (dC, dI) B base G0 G0 EX14_goalsOf s.heap 0 0 [(kr, 15, 19, .int lemmaName_13), (r0, 16, 6, .int qf_5), (kr, 15, 18, .int proof_3), (r0, 16, 58, .ref kr), (kr, 15, 21, .int pg), (kr, 15, 22, .ref zg), (kr, 15, 25, .ref zh), (kr, 15, 27, .ref zp), (kr, 15, 0, .ref zs), (kr, 15, 1, .ref zn), (kr, 15, 2, .ref za), (kr, 15, 3, .ref zb), (kr, 15, 4, .ref zc), (kr, 15, 14, .ref zy)] [(zg, 161, 46, ca 1, fg), (zh, 159, 46, ca 1, fh), (zp, 162, 368, ca 1, fp), (zs, 150, 120000, ca 1, C.s), (zn, 151, 120000, ca 1, C.n), (za, 152, 120000, ca 1, C.a), (zb, 153, 120000, ca 1, C.b), (zc, 154, 120000, ca 1, C.c), (zy, 165, 16, ca 1, C.y)] [] H_14 locs_14 := ((hh_12.call hb_141 hb_142 hb_143 hb_144 hS_14 rfl (L1 := [(kr, 15, 19, .int lemmaName_13), (r0, 16, 6, .int qf_5), (kr, 15, 18, .int proof_3), (r0, 16, 58, .ref kr), (kr, 15, 21, .int pg), (kr, 15, 22, .ref zg), (kr, 15, 25, .ref zh), (kr, 15, 27, .ref zp), (kr, 15, 0, .ref zs), (kr, 15, 1, .ref zn), (kr, 15, 2, .ref za), (kr, 15, 3, .ref zb), (kr, 15, 4, .ref zc), (kr, 15, 14, .ref zy)]) [0, 2, 3, 4, 5, 6, 7, 8, 9, 10, 11, 12, 13, 14] rfl rfl (M1 := [(zg, 161, 46, ca 1, fg), (zh, 159, 46, ca 1, fh), (zp, 162, 368, ca 1, fp), (zs, 150, 120000, ca 1, C.s), (zn, 151, 120000, ca 1, C.n), (za, 152, 120000, ca 1, C.a), (zb, 153, 120000, ca 1, C.b), (zc, 154, 120000, ca 1, C.c), (zy, 165, 16, ca 1, C.y)]) [0, 1, 2, 3, 4, 5, 6, 7, 8] rfl rfl (I1 := []) [] rfl rfl).more hb_145)
    clear hh_12 ht_14 hvm_14 hz_14 hk_14 hS_14 hb_141 hb_142 hb_143 hb_144 hb_145
    refine lv_aload_n hx hb dX14_goalsOf_47 rfl (lv_at hl 0 rfl) ?_
    refine lv_iconst (v := 0) hx hb dX14_goalsOf_48 (by decide) ?_
    refine va_callv (A0 := jA base) (H0 := s.heap) (va_runV (As := [.int 0]) (rest := []) ⟨hx, hb, hml, hown, hts⟩ (uX14_putLine l dC dI ca base B hB hAp hB15 hB16 hB101 G0 H_14 r0 0) (cwV 1 hts (jgV (jWr_70 _ (List.mem_of_getElem? (i := 11) rfl)) (jWr_70 _ (List.mem_of_getElem? (i := 12) rfl)) (jWr_70 _ (List.mem_of_getElem? (i := 13) rfl)) (jWr_1 _ (List.mem_of_getElem? (i := 5) rfl)) (jWr_70 _ (List.mem_of_getElem? (i := 14) rfl))) rfl rfl rfl (by decide +kernel) ⟨by rw [← hR]; exact Nat.le_of_ble_eq_true rfl, by rw [← hR]; exact Nat.le_of_ble_eq_true rfl⟩) ⟨fun a U g mk q => by obtain ⟨q0, q1, q2, qK, q10, q11, q12⟩ := q; exact ⟨q0, q1, q2, jG.calling g mk a qK, q10, q11, q12⟩, hh_14.recv (C := RX14) (T := TX14) (N := 74) hB16 rfl (by decide) hg_r0 hK, fun U hU hW => ⟨rfl, hU, hh_14.2.1, hG.step hW hU hh_14.1, hg_r0, jP.nil, by first | omega | (refine ⟨?_, ?_⟩ <;> (first | omega | rfl | assumption | decide | exact Or.inl rfl | exact Or.inr rfl | (simp only; omega)))⟩⟩ rfl rfl hl.1 rfl (lv_room (Nat.le_of_ble_eq_true rfl)) dX14_goalsOf_49 ⟨Nat.zero_le _, Nat.zero_le _⟩) hh_14.1 (fun q _ h => h) (fun q h => h) (fun u_16 t_16 H_16 locs_16 ht_16 hvm_16 hr_17 hb_16 hz_16 hk_16 hS_16 => ?_)
    rw [ht_16] at hb_16
    obtain ⟨hb_161, hb_162, hb_163, hb_164, hb_165⟩ := hb_16
    have hh_16 : jSt (dC, dI) B base G0 G0 EX14_goalsOf s.heap 0 0 [(kr, 15, 19, .int lemmaName_13), (kr, 15, 18, .int proof_3), (r0, 16, 58, .ref kr), (kr, 15, 21, .int pg), (kr, 15, 22, .ref zg), (kr, 15, 25, .ref zh), (kr, 15, 27, .ref zp), (kr, 15, 0, .ref zs), (kr, 15, 1, .ref zn), (kr, 15, 2, .ref za), (kr, 15, 3, .ref zb), (kr, 15, 4, .ref zc), (kr, 15, 14, .ref zy)] [(zg, 161, 46, ca 1, fg), (zh, 159, 46, ca 1, fh), (zp, 162, 368, ca 1, fp), (zs, 150, 120000, ca 1, C.s), (zn, 151, 120000, ca 1, C.n), (za, 152, 120000, ca 1, C.a), (zb, 153, 120000, ca 1, C.b), (zc, 154, 120000, ca 1, C.c), (zy, 165, 16, ca 1, C.y)] [] H_16 locs_16 := ((hh_14.call hb_161 hb_162 hb_163 hb_164 hS_16 rfl (L1 := [(kr, 15, 19, .int lemmaName_13), (kr, 15, 18, .int proof_3), (r0, 16, 58, .ref kr), (kr, 15, 21, .int pg), (kr, 15, 22, .ref zg), (kr, 15, 25, .ref zh), (kr, 15, 27, .ref zp), (kr, 15, 0, .ref zs), (kr, 15, 1, .ref zn), (kr, 15, 2, .ref za), (kr, 15, 3, .ref zb), (kr, 15, 4, .ref zc), (kr, 15, 14, .ref zy)]) [0, 2, 3, 4, 5, 6, 7, 8, 9, 10, 11, 12, 13] rfl rfl (M1 := [(zg, 161, 46, ca 1, fg), (zh, 159, 46, ca 1, fh), (zp, 162, 368, ca 1, fp), (zs, 150, 120000, ca 1, C.s), (zn, 151, 120000, ca 1, C.n), (za, 152, 120000, ca 1, C.a), (zb, 153, 120000, ca 1, C.b), (zc, 154, 120000, ca 1, C.c), (zy, 165, 16, ca 1, C.y)]) [0, 1, 2, 3, 4, 5, 6, 7, 8] rfl rfl (I1 := []) [] rfl rfl).more hb_165)
    clear hh_14 ht_16 hvm_16 hz_16 hk_16 hS_16 hb_161 hb_162 hb_163 hb_164 hb_165
    refine lv_aload_n hx hb dX14_goalsOf_52 rfl (lv_at hl 0 rfl) ?_
    refine j_ldcSw hx hb hown rstr651 dX14_goalsOf_53 ?_
    obtain ⟨v_20, hv_20, hh_21⟩ := hh_16.pin (C := RX14) (T := TX14) (N := 74) hB16 rfl (by decide) hg_r0 (i := 6) (by decide) rfl
    obtain ⟨framed_22, rfl, hloframed_22, hhiframed_22⟩ := hv_20
    refine va_callv (A0 := jA base) (H0 := s.heap) (va_runV (As := [.ref str651]) (rest := []) ⟨hx, hb, hml, hown, hts⟩ (uX14_word l dC dI ca base B hB hAp hB16 hB101 G0 H_16 r0 str651 10 framed_22) (cwV 1 hts (jgV (jWr_53 _ (List.mem_of_getElem? (i := 22) rfl)) (jWr_53 _ (List.mem_of_getElem? (i := 23) rfl)) (jWr_54 _ (List.mem_of_getElem? (i := 0) rfl)) (jWr_1 _ (List.mem_of_getElem? (i := 5) rfl)) (jWr_54 _ (List.mem_of_getElem? (i := 1) rfl))) rfl rfl rfl (by decide +kernel) ⟨by rw [← hR]; exact Nat.le_of_ble_eq_true rfl, by rw [← hR]; exact Nat.le_of_ble_eq_true rfl⟩) ⟨fun a U g mk q => by obtain ⟨q0, q1, q2, qK, q10, q11, q12, q13⟩ := q; exact ⟨q0, q1, q2, jG.calling g mk a qK, (q10.moved (Vm.Alike.refl U.vm)), q11, q12, q13⟩, hh_21.recv (C := RX14) (T := TX14) (N := 74) hB16 rfl (by decide) hg_r0 hK, fun U hU hW => ⟨rfl, hU, hh_21.2.1, hG.step hW hU hh_21.1, (hstr651.moved hW.alike).kept hh_21.1.2.1, hg_r0, (hh_21.2.2.1.sub (L1 := [(r0, 16, 6, .int framed_22)]) [0] rfl), by first | omega | (refine ⟨?_, ?_, ?_⟩ <;> (first | omega | rfl | assumption | decide | exact Or.inl rfl | exact Or.inr rfl | (simp only; omega)))⟩⟩ rfl rfl hl.1 rfl (lv_room (Nat.le_of_ble_eq_true rfl)) dX14_goalsOf_56 ⟨Nat.zero_le _, Nat.zero_le _⟩) hh_21.1 (fun q _ h => h) (fun q h => h) (fun u_18 t_18 H_18 locs_18 ht_18 hvm_18 hr_19 hb_18 hz_18 hk_18 hS_18 => ?_)
    obtain ⟨qf_18, rfl⟩ : ∃ z, z = u_18 := ⟨_, rfl⟩
    rw [ht_18] at hb_18
    obtain ⟨hb_181, hb_182, hb_183, hb_184, hb_185⟩ := hb_18
    have hh_18 : jSt (dC, dI) B base G0 G0 EX14_goalsOf s.heap 0 0 [(r0, 16, 6, .int qf_18), (kr, 15, 19, .int lemmaName_13), (kr, 15, 18, .int proof_3), (r0, 16, 58, .ref kr), (kr, 15, 21, .int pg), (kr, 15, 22, .ref zg), (kr, 15, 25, .ref zh), (kr, 15, 27, .ref zp), (kr, 15, 0, .ref zs), (kr, 15, 1, .ref zn), (kr, 15, 2, .ref za), (kr, 15, 3, .ref zb), (kr, 15, 4, .ref zc), (kr, 15, 14, .ref zy)] [(zg, 161, 46, ca 1, fg), (zh, 159, 46, ca 1, fh), (zp, 162, 368, ca 1, fp), (zs, 150, 120000, ca 1, C.s), (zn, 151, 120000, ca 1, C.n), (za, 152, 120000, ca 1, C.a), (zb, 153, 120000, ca 1, C.b), (zc, 154, 120000, ca 1, C.c), (zy, 165, 16, ca 1, C.y)] [] H_18 locs_18 := ((hh_21.call hb_181 hb_182 hb_183 hb_184 hS_18 rfl (L1 := [(kr, 15, 19, .int lemmaName_13), (kr, 15, 18, .int proof_3), (r0, 16, 58, .ref kr), (kr, 15, 21, .int pg), (kr, 15, 22, .ref zg), (kr, 15, 25, .ref zh), (kr, 15, 27, .ref zp), (kr, 15, 0, .ref zs), (kr, 15, 1, .ref zn), (kr, 15, 2, .ref za), (kr, 15, 3, .ref zb), (kr, 15, 4, .ref zc), (kr, 15, 14, .ref zy)]) [1, 2, 3, 4, 5, 6, 7, 8, 9, 10, 11, 12, 13] rfl rfl (M1 := [(zg, 161, 46, ca 1, fg), (zh, 159, 46, ca 1, fh), (zp, 162, 368, ca 1, fp), (zs, 150, 120000, ca 1, C.s), (zn, 151, 120000, ca 1, C.n), (za, 152, 120000, ca 1, C.a), (zb, 153, 120000, ca 1, C.b), (zc, 154, 120000, ca 1, C.c), (zy, 165, 16, ca 1, C.y)]) [0, 1, 2, 3, 4, 5, 6, 7, 8] rfl rfl (I1 := []) [] rfl rfl).more hb_185)
    clear hh_21 ht_18 hvm_18 hz_18 hk_18 hS_18 hb_181 hb_182 hb_183 hb_184 hb_185
    obtain ⟨hr_19_0, hr_19_1⟩ := hr_19
    refine lv_iconst (v := 0) hx hb dX14_goalsOf_59 (by decide) ?_
    refine lv_istore_n (lv' := [(1, .int 0), (0, .ref r0)]) hx hb dX14_goalsOf_60 rfl hl (by decide) rfl (fun ls hl => ?_)
    have L61 : ∀ (N : Nat) (v1_23 : Int32) (H_23 : Heap) (locs_23 : List Loc), jSt (dC, dI) B base G0 G0 EX14_goalsOf s.heap 0 0 [(kr, 15, 19, .int lemmaName_13), (kr, 15, 18, .int proof_3), (r0, 16, 58, .ref kr), (kr, 15, 21, .int pg), (kr, 15, 22, .ref zg), (kr, 15, 25, .ref zh), (kr, 15, 27, .ref zp), (kr, 15, 0, .ref zs), (kr, 15, 1, .ref zn), (kr, 15, 2, .ref za), (kr, 15, 3, .ref zb), (kr, 15, 4, .ref zc), (kr, 15, 14, .ref zy)] [(zg, 161, 46, ca 1, fg), (zh, 159, 46, ca 1, fh), (zp, 162, 368, ca 1, fp), (zs, 150, 120000, ca 1, C.s), (zn, 151, 120000, ca 1, C.n), (za, 152, 120000, ca 1, C.a), (zb, 153, 120000, ca 1, C.b), (zc, 154, 120000, ca 1, C.c), (zy, 165, 16, ca 1, C.y)] [] H_23 locs_23 → (0 ≤ v1_23.toInt ∧ v1_23.toInt ≤ pg.toInt) → (pg.toInt - v1_23.toInt : Int) < N → ∀ ls : Array Slot, lv_has ls 2 [(0, .ref r0), (1, .int v1_23)] → W p l e R s m ([.ref r0] : List Value).toArray below meth c H_23 locs_23 0 0 Q (F0 m 61 ls []) := by
      intro N
      induction N with
      | zero => intro v1_23 H_23 locs_23 hh_23  hi_23 hm; exact absurd hm (by omega)
      | succ N L61 =>
        intro v1_23 H_23 locs_23 hh_23  hi_23 hm_23 ls hl
        obtain ⟨hi_23_0, hi_23_1⟩ := hi_23
        refine lv_iload_n hx hb dX14_goalsOf_61 rfl (lv_at hl 1 rfl) ?_
        refine lv_aload_n hx hb dX14_goalsOf_62 rfl (lv_at hl 0 rfl) ?_
        refine j7_read hx hb hown hK (C := RX14) (T := TX14) (N := 74) rfl hly_16_58 hlk_122 (hh_23.at 2 rfl) dX14_goalsOf_63 ?_
        refine j7_readN hx hb hown hK (C := RX13) (T := TX13) (N := 50) rfl hly_15_21 hlk_653 (hh_23.at 3 rfl) dX14_goalsOf_66 ?_
        refine lv_icmp_ge (tgt := 101) hx hb dX14_goalsOf_69 (by decide) (fun c_24 => ?_) (fun c_24 => ?_)
        · skip
          have c_24' : v1_23.toInt ≥ pg.toInt := jb_ge (rfl) (rfl) c_24
          refine lv_aload_n hx hb dX14_goalsOf_101 rfl (lv_at hl 0 rfl) ?_
          refine j_ldcSw hx hb hown rstr659 dX14_goalsOf_102 ?_
          obtain ⟨v_27, hv_27, hh_28⟩ := hh_23.pin (C := RX14) (T := TX14) (N := 74) hB16 rfl (by decide) hg_r0 (i := 6) (by decide) rfl
          obtain ⟨framed_29, rfl, hloframed_29, hhiframed_29⟩ := hv_27
          refine va_callv (A0 := jA base) (H0 := s.heap) (va_runV (As := [.ref str659]) (rest := []) ⟨hx, hb, hml, hown, hts⟩ (uX14_word l dC dI ca base B hB hAp hB16 hB101 G0 H_23 r0 str659 2 framed_29) (cwV 1 hts (jgV (jWr_53 _ (List.mem_of_getElem? (i := 22) rfl)) (jWr_53 _ (List.mem_of_getElem? (i := 23) rfl)) (jWr_54 _ (List.mem_of_getElem? (i := 0) rfl)) (jWr_1 _ (List.mem_of_getElem? (i := 5) rfl)) (jWr_54 _ (List.mem_of_getElem? (i := 1) rfl))) rfl rfl rfl (by decide +kernel) ⟨by rw [← hR]; exact Nat.le_of_ble_eq_true rfl, by rw [← hR]; exact Nat.le_of_ble_eq_true rfl⟩) ⟨fun a U g mk q => by obtain ⟨q0, q1, q2, qK, q10, q11, q12, q13⟩ := q; exact ⟨q0, q1, q2, jG.calling g mk a qK, (q10.moved (Vm.Alike.refl U.vm)), q11, q12, q13⟩, hh_28.recv (C := RX14) (T := TX14) (N := 74) hB16 rfl (by decide) hg_r0 hK, fun U hU hW => ⟨rfl, hU, hh_28.2.1, hG.step hW hU hh_28.1, (hstr659.moved hW.alike).kept hh_28.1.2.1, hg_r0, (hh_28.2.2.1.sub (L1 := [(r0, 16, 6, .int framed_29)]) [0] rfl), by first | omega | (refine ⟨?_, ?_, ?_⟩ <;> (first | omega | rfl | assumption | decide | exact Or.inl rfl | exact Or.inr rfl | (simp only; omega)))⟩⟩ rfl rfl hl.1 rfl (lv_room (Nat.le_of_ble_eq_true rfl)) dX14_goalsOf_105 ⟨Nat.zero_le _, Nat.zero_le _⟩) hh_28.1 (fun q _ h => h) (fun q h => h) (fun u_25 t_25 H_25 locs_25 ht_25 hvm_25 hr_26 hb_25 hz_25 hk_25 hS_25 => ?_)
          obtain ⟨qf_25, rfl⟩ : ∃ z, z = u_25 := ⟨_, rfl⟩
          rw [ht_25] at hb_25
          obtain ⟨hb_251, hb_252, hb_253, hb_254, hb_255⟩ := hb_25
          have hh_25 : jSt (dC, dI) B base G0 G0 EX14_goalsOf s.heap 0 0 [(r0, 16, 6, .int qf_25), (kr, 15, 19, .int lemmaName_13), (kr, 15, 18, .int proof_3), (r0, 16, 58, .ref kr), (kr, 15, 21, .int pg), (kr, 15, 22, .ref zg), (kr, 15, 25, .ref zh), (kr, 15, 27, .ref zp), (kr, 15, 0, .ref zs), (kr, 15, 1, .ref zn), (kr, 15, 2, .ref za), (kr, 15, 3, .ref zb), (kr, 15, 4, .ref zc), (kr, 15, 14, .ref zy)] [(zg, 161, 46, ca 1, fg), (zh, 159, 46, ca 1, fh), (zp, 162, 368, ca 1, fp), (zs, 150, 120000, ca 1, C.s), (zn, 151, 120000, ca 1, C.n), (za, 152, 120000, ca 1, C.a), (zb, 153, 120000, ca 1, C.b), (zc, 154, 120000, ca 1, C.c), (zy, 165, 16, ca 1, C.y)] [] H_25 locs_25 := ((hh_28.call hb_251 hb_252 hb_253 hb_254 hS_25 rfl (L1 := [(kr, 15, 19, .int lemmaName_13), (kr, 15, 18, .int proof_3), (r0, 16, 58, .ref kr), (kr, 15, 21, .int pg), (kr, 15, 22, .ref zg), (kr, 15, 25, .ref zh), (kr, 15, 27, .ref zp), (kr, 15, 0, .ref zs), (kr, 15, 1, .ref zn), (kr, 15, 2, .ref za), (kr, 15, 3, .ref zb), (kr, 15, 4, .ref zc), (kr, 15, 14, .ref zy)]) [1, 2, 3, 4, 5, 6, 7, 8, 9, 10, 11, 12, 13] rfl rfl (M1 := [(zg, 161, 46, ca 1, fg), (zh, 159, 46, ca 1, fh), (zp, 162, 368, ca 1, fp), (zs, 150, 120000, ca 1, C.s), (zn, 151, 120000, ca 1, C.n), (za, 152, 120000, ca 1, C.a), (zb, 153, 120000, ca 1, C.b), (zc, 154, 120000, ca 1, C.c), (zy, 165, 16, ca 1, C.y)]) [0, 1, 2, 3, 4, 5, 6, 7, 8] rfl rfl (I1 := []) [] rfl rfl).more hb_255)
          clear hh_28 ht_25 hvm_25 hz_25 hk_25 hS_25 hb_251 hb_252 hb_253 hb_254 hb_255
          obtain ⟨hr_26_0, hr_26_1⟩ := hr_26
          rw [hQ]
          exact W.vret hx hb hr (fun t ht hW => ⟨⟨(), rfl, trivial, hh_25.rt (M1 := []) [] rfl ht⟩, by rw [ht]; try exact hh_25.1.1, fun q h9 hq => by rw [ht]; try exact hh_25.1.2.1 q h9 hq⟩) hh_25.1.2.2 dX14_goalsOf_108
        · skip
          have c_24' : v1_23.toInt < pg.toInt := jb_ge_n (rfl) (rfl) c_24
          refine lv_iload_n hx hb dX14_goalsOf_72 rfl (lv_at hl 1 rfl) ?_
          refine lv_if_le (tgt := 82) hx hb dX14_goalsOf_73 (by decide) (fun c_30 => ?_) (fun c_30 => ?_)
          · skip
            have c_30' : v1_23.toInt ≤ 0 := jb_le (rfl) ((by decide)) c_30
            refine lv_aload_n hx hb dX14_goalsOf_82 rfl (lv_at hl 0 rfl) ?_
            refine j7_read hx hb hown hK (C := RX14) (T := TX14) (N := 74) rfl hly_16_58 hlk_122 (hh_23.at 2 rfl) dX14_goalsOf_83 ?_
            refine lv_iload_n hx hb dX14_goalsOf_86 rfl (lv_at hl 1 rfl) ?_
            refine va_callv (A0 := jA base) (H0 := s.heap) (va_runV (As := [.int v1_23]) (rest := []) ⟨hx, hb, hml, hown, hts⟩ (uX13_printGoal l dC dI ca base B hB hAp hB15 hB101 hB150 hB151 hB152 hB153 hB154 hB155 hB156 hB158 hB159 hB161 hB162 hB163 hB164 hB165 hB166 G0 H_23 kr v1_23 zg zh zp zs zn za zb zc zy gN gY fg fh fp C) (cwV 1 hts (jgV (jWr_70 _ (List.mem_of_getElem? (i := 15) rfl)) (jWr_70 _ (List.mem_of_getElem? (i := 16) rfl)) (jWr_70 _ (List.mem_of_getElem? (i := 17) rfl)) (jWr_12 _ (List.mem_of_getElem? (i := 12) rfl)) (jWr_70 _ (List.mem_of_getElem? (i := 18) rfl))) rfl rfl rfl (by decide +kernel) ⟨by rw [← hR]; exact Nat.le_of_ble_eq_true rfl, by rw [← hR]; exact Nat.le_of_ble_eq_true rfl⟩) ⟨fun a U g mk q => by obtain ⟨q0, q1, q2, qK, q10, q11, q12, q13, q14, q15, q16, q17, q18, q19, q20, q21, q22⟩ := q; exact ⟨q0, q1, q2, jG.calling g mk a qK, q10, q11, q12, q13, q14, q15, q16, q17, q18, q19, q20, q21, q22⟩, hh_23.recv (C := RX13) (T := TX13) (N := 50) hB15 rfl (by decide) hg_kr hK, fun U hU hW => ⟨rfl, hU, hh_23.2.1, hG.step hW hU hh_23.1, hg_kr, hg_zg, hg_zh, hg_zp, hg_zs, hg_zn, hg_za, hg_zb, hg_zc, hg_zy, (hh_23.2.2.1.sub (L1 := [(kr, 15, 22, .ref zg), (kr, 15, 25, .ref zh), (kr, 15, 27, .ref zp), (kr, 15, 0, .ref zs), (kr, 15, 1, .ref zn), (kr, 15, 2, .ref za), (kr, 15, 3, .ref zb), (kr, 15, 4, .ref zc), (kr, 15, 14, .ref zy)]) [4, 5, 6, 7, 8, 9, 10, 11, 12] rfl), (hh_23.2.2.2.2.2.2.2.1.sub (L1 := [(zg, 161, 46, ca 1, fg), (zh, 159, 46, ca 1, fh), (zp, 162, 368, ca 1, fp), (zs, 150, 120000, ca 1, C.s), (zn, 151, 120000, ca 1, C.n), (za, 152, 120000, ca 1, C.a), (zb, 153, 120000, ca 1, C.b), (zc, 154, 120000, ca 1, C.c), (zy, 165, 16, ca 1, C.y)]) [0, 1, 2, 3, 4, 5, 6, 7, 8] rfl), ⟨(by first | assumption | exact hp0 _ (by omega) (by omega) | omega), (by first | omega | rfl | assumption | exact hp0 _ (by omega) (by omega)), (by first | omega | rfl | assumption | exact hp0 _ (by omega) (by omega)), (by first | omega | rfl | assumption | exact hp0 _ (by omega) (by omega)), (by first | omega | rfl | assumption | exact hp0 _ (by omega) (by omega))⟩⟩⟩ rfl rfl hl.1 rfl (lv_room (Nat.le_of_ble_eq_true rfl)) dX14_goalsOf_87 ⟨Nat.zero_le _, Nat.zero_le _⟩) hh_23.1 (fun q _ h => h) (fun q h => h) (fun u_31 t_31 H_31 locs_31 ht_31 hvm_31 hr_32 hb_31 hz_31 hk_31 hS_31 => ?_)
            rw [ht_31] at hb_31
            obtain ⟨hb_311, hb_312, hb_313, hb_314, hb_315⟩ := hb_31
            have hh_31 : jSt (dC, dI) B base G0 G0 EX14_goalsOf s.heap 0 0 [(kr, 15, 19, .int lemmaName_13), (kr, 15, 18, .int proof_3), (r0, 16, 58, .ref kr), (kr, 15, 21, .int pg), (kr, 15, 22, .ref zg), (kr, 15, 25, .ref zh), (kr, 15, 27, .ref zp), (kr, 15, 0, .ref zs), (kr, 15, 1, .ref zn), (kr, 15, 2, .ref za), (kr, 15, 3, .ref zb), (kr, 15, 4, .ref zc), (kr, 15, 14, .ref zy)] [(zg, 161, 46, ca 1, fg), (zh, 159, 46, ca 1, fh), (zp, 162, 368, ca 1, fp), (zs, 150, 120000, ca 1, C.s), (zn, 151, 120000, ca 1, C.n), (za, 152, 120000, ca 1, C.a), (zb, 153, 120000, ca 1, C.b), (zc, 154, 120000, ca 1, C.c), (zy, 165, 16, ca 1, C.y)] [] H_31 locs_31 := ((hh_23.call hb_311 hb_312 hb_313 hb_314 hS_31 rfl (L1 := [(kr, 15, 19, .int lemmaName_13), (kr, 15, 18, .int proof_3), (r0, 16, 58, .ref kr), (kr, 15, 21, .int pg), (kr, 15, 22, .ref zg), (kr, 15, 25, .ref zh), (kr, 15, 27, .ref zp), (kr, 15, 0, .ref zs), (kr, 15, 1, .ref zn), (kr, 15, 2, .ref za), (kr, 15, 3, .ref zb), (kr, 15, 4, .ref zc), (kr, 15, 14, .ref zy)]) [0, 1, 2, 3, 4, 5, 6, 7, 8, 9, 10, 11, 12] rfl rfl (M1 := [(zg, 161, 46, ca 1, fg), (zh, 159, 46, ca 1, fh), (zp, 162, 368, ca 1, fp), (zs, 150, 120000, ca 1, C.s), (zn, 151, 120000, ca 1, C.n), (za, 152, 120000, ca 1, C.a), (zb, 153, 120000, ca 1, C.b), (zc, 154, 120000, ca 1, C.c), (zy, 165, 16, ca 1, C.y)]) [0, 1, 2, 3, 4, 5, 6, 7, 8] rfl rfl (I1 := []) [] rfl rfl).more hb_315)
            clear hh_23 ht_31 hvm_31 hz_31 hk_31 hS_31 hb_311 hb_312 hb_313 hb_314 hb_315
            refine lv_aload_n hx hb dX14_goalsOf_90 rfl (lv_at hl 0 rfl) ?_
            refine lv_iconst (v := 0) hx hb dX14_goalsOf_91 (by decide) ?_
            refine va_callv (A0 := jA base) (H0 := s.heap) (va_runV (As := [.int 0]) (rest := []) ⟨hx, hb, hml, hown, hts⟩ (uX14_putLine l dC dI ca base B hB hAp hB15 hB16 hB101 G0 H_31 r0 0) (cwV 1 hts (jgV (jWr_70 _ (List.mem_of_getElem? (i := 11) rfl)) (jWr_70 _ (List.mem_of_getElem? (i := 12) rfl)) (jWr_70 _ (List.mem_of_getElem? (i := 13) rfl)) (jWr_1 _ (List.mem_of_getElem? (i := 5) rfl)) (jWr_70 _ (List.mem_of_getElem? (i := 14) rfl))) rfl rfl rfl (by decide +kernel) ⟨by rw [← hR]; exact Nat.le_of_ble_eq_true rfl, by rw [← hR]; exact Nat.le_of_ble_eq_true rfl⟩) ⟨fun a U g mk q => by obtain ⟨q0, q1, q2, qK, q10, q11, q12⟩ := q; exact ⟨q0, q1, q2, jG.calling g mk a qK, q10, q11, q12⟩, hh_31.recv (C := RX14) (T := TX14) (N := 74) hB16 rfl (by decide) hg_r0 hK, fun U hU hW => ⟨rfl, hU, hh_31.2.1, hG.step hW hU hh_31.1, hg_r0, jP.nil, by first | omega | (refine ⟨?_, ?_⟩ <;> (first | omega | rfl | assumption | decide | exact Or.inl rfl | exact Or.inr rfl | (simp only; omega)))⟩⟩ rfl rfl hl.1 rfl (lv_room (Nat.le_of_ble_eq_true rfl)) dX14_goalsOf_92 ⟨Nat.zero_le _, Nat.zero_le _⟩) hh_31.1 (fun q _ h => h) (fun q h => h) (fun u_33 t_33 H_33 locs_33 ht_33 hvm_33 hr_34 hb_33 hz_33 hk_33 hS_33 => ?_)
            rw [ht_33] at hb_33
            obtain ⟨hb_331, hb_332, hb_333, hb_334, hb_335⟩ := hb_33
            have hh_33 : jSt (dC, dI) B base G0 G0 EX14_goalsOf s.heap 0 0 [(kr, 15, 19, .int lemmaName_13), (kr, 15, 18, .int proof_3), (r0, 16, 58, .ref kr), (kr, 15, 21, .int pg), (kr, 15, 22, .ref zg), (kr, 15, 25, .ref zh), (kr, 15, 27, .ref zp), (kr, 15, 0, .ref zs), (kr, 15, 1, .ref zn), (kr, 15, 2, .ref za), (kr, 15, 3, .ref zb), (kr, 15, 4, .ref zc), (kr, 15, 14, .ref zy)] [(zg, 161, 46, ca 1, fg), (zh, 159, 46, ca 1, fh), (zp, 162, 368, ca 1, fp), (zs, 150, 120000, ca 1, C.s), (zn, 151, 120000, ca 1, C.n), (za, 152, 120000, ca 1, C.a), (zb, 153, 120000, ca 1, C.b), (zc, 154, 120000, ca 1, C.c), (zy, 165, 16, ca 1, C.y)] [] H_33 locs_33 := ((hh_31.call hb_331 hb_332 hb_333 hb_334 hS_33 rfl (L1 := [(kr, 15, 19, .int lemmaName_13), (kr, 15, 18, .int proof_3), (r0, 16, 58, .ref kr), (kr, 15, 21, .int pg), (kr, 15, 22, .ref zg), (kr, 15, 25, .ref zh), (kr, 15, 27, .ref zp), (kr, 15, 0, .ref zs), (kr, 15, 1, .ref zn), (kr, 15, 2, .ref za), (kr, 15, 3, .ref zb), (kr, 15, 4, .ref zc), (kr, 15, 14, .ref zy)]) [0, 1, 2, 3, 4, 5, 6, 7, 8, 9, 10, 11, 12] rfl rfl (M1 := [(zg, 161, 46, ca 1, fg), (zh, 159, 46, ca 1, fh), (zp, 162, 368, ca 1, fp), (zs, 150, 120000, ca 1, C.s), (zn, 151, 120000, ca 1, C.n), (za, 152, 120000, ca 1, C.a), (zb, 153, 120000, ca 1, C.b), (zc, 154, 120000, ca 1, C.c), (zy, 165, 16, ca 1, C.y)]) [0, 1, 2, 3, 4, 5, 6, 7, 8] rfl rfl (I1 := []) [] rfl rfl).more hb_335)
            clear hh_31 ht_33 hvm_33 hz_33 hk_33 hS_33 hb_331 hb_332 hb_333 hb_334 hb_335
            obtain ⟨z_35, ez_35⟩ : ∃ y : Int32, y = v1_23 + 1 := ⟨_, rfl⟩
            refine lv_iinc (v := z_35) (lv' := [(1, .int z_35), (0, .ref r0)]) hx hb dX14_goalsOf_95 hl (k := 1) rfl (by rw [ez_35]; rfl) (by decide) rfl (fun ls hl => ?_)
            have hz_35 : z_35.toInt = v1_23.toInt + 1 := by rw [ez_35]; exact jb_iadd2 (rfl) (by decide) (by omega)
            refine lv_goto (tgt := 61) hx hb dX14_goalsOf_98 (by decide) ?_
            exact L61 z_35 _ _ hh_33 (by first | omega | (refine ⟨?_, ?_⟩ <;> (first | omega | rfl | assumption | decide | exact Or.inl rfl | exact Or.inr rfl | (simp only; omega)))) (by omega) _ (lv_sub hl [1, 0] rfl)
          · skip
            have c_30' : v1_23.toInt > 0 := jb_le_n (rfl) ((by decide)) c_30
            refine lv_aload_n hx hb dX14_goalsOf_76 rfl (lv_at hl 0 rfl) ?_
            refine lv_bipush (v := 44) hx hb dX14_goalsOf_77 (by decide) ?_
            obtain ⟨v_38, hv_38, hh_39⟩ := hh_23.pin (C := RX14) (T := TX14) (N := 74) hB16 rfl (by decide) hg_r0 (i := 6) (by decide) rfl
            obtain ⟨framed_40, rfl, hloframed_40, hhiframed_40⟩ := hv_38
            refine va_callv (A0 := jA base) (H0 := s.heap) (va_runV (As := [.int 44]) (rest := []) ⟨hx, hb, hml, hown, hts⟩ (uX14_put l dC dI ca base B hB hAp hB16 hB101 G0 H_23 r0 44 framed_40) (cwV 1 hts (jgV (jWr_54 _ (List.mem_of_getElem? (i := 2) rfl)) (jWr_54 _ (List.mem_of_getElem? (i := 3) rfl)) (jWr_54 _ (List.mem_of_getElem? (i := 4) rfl)) (jWr_1 _ (List.mem_of_getElem? (i := 5) rfl)) (jWr_54 _ (List.mem_of_getElem? (i := 5) rfl))) rfl rfl rfl (by decide +kernel) ⟨by rw [← hR]; exact Nat.le_of_ble_eq_true rfl, by rw [← hR]; exact Nat.le_of_ble_eq_true rfl⟩) ⟨fun a U g mk q => by obtain ⟨q0, q1, q2, qK, q10, q11, q12⟩ := q; exact ⟨q0, q1, q2, jG.calling g mk a qK, q10, q11, q12⟩, hh_39.recv (C := RX14) (T := TX14) (N := 74) hB16 rfl (by decide) hg_r0 hK, fun U hU hW => ⟨rfl, hU, hh_39.2.1, hG.step hW hU hh_39.1, hg_r0, (hh_39.2.2.1.sub (L1 := [(r0, 16, 6, .int framed_40)]) [0] rfl), by first | omega | (refine ⟨?_, ?_⟩ <;> (first | omega | rfl | assumption | decide | exact Or.inl rfl | exact Or.inr rfl | (simp only; omega)))⟩⟩ rfl rfl hl.1 rfl (lv_room (Nat.le_of_ble_eq_true rfl)) dX14_goalsOf_79 ⟨Nat.zero_le _, Nat.zero_le _⟩) hh_39.1 (fun q _ h => h) (fun q h => h) (fun u_36 t_36 H_36 locs_36 ht_36 hvm_36 hr_37 hb_36 hz_36 hk_36 hS_36 => ?_)
            obtain ⟨qf_36, rfl⟩ : ∃ z, z = u_36 := ⟨_, rfl⟩
            rw [ht_36] at hb_36
            obtain ⟨hb_361, hb_362, hb_363, hb_364, hb_365⟩ := hb_36
            have hh_36 : jSt (dC, dI) B base G0 G0 EX14_goalsOf s.heap 0 0 [(r0, 16, 6, .int qf_36), (kr, 15, 19, .int lemmaName_13), (kr, 15, 18, .int proof_3), (r0, 16, 58, .ref kr), (kr, 15, 21, .int pg), (kr, 15, 22, .ref zg), (kr, 15, 25, .ref zh), (kr, 15, 27, .ref zp), (kr, 15, 0, .ref zs), (kr, 15, 1, .ref zn), (kr, 15, 2, .ref za), (kr, 15, 3, .ref zb), (kr, 15, 4, .ref zc), (kr, 15, 14, .ref zy)] [(zg, 161, 46, ca 1, fg), (zh, 159, 46, ca 1, fh), (zp, 162, 368, ca 1, fp), (zs, 150, 120000, ca 1, C.s), (zn, 151, 120000, ca 1, C.n), (za, 152, 120000, ca 1, C.a), (zb, 153, 120000, ca 1, C.b), (zc, 154, 120000, ca 1, C.c), (zy, 165, 16, ca 1, C.y)] [] H_36 locs_36 := ((hh_39.call hb_361 hb_362 hb_363 hb_364 hS_36 rfl (L1 := [(kr, 15, 19, .int lemmaName_13), (kr, 15, 18, .int proof_3), (r0, 16, 58, .ref kr), (kr, 15, 21, .int pg), (kr, 15, 22, .ref zg), (kr, 15, 25, .ref zh), (kr, 15, 27, .ref zp), (kr, 15, 0, .ref zs), (kr, 15, 1, .ref zn), (kr, 15, 2, .ref za), (kr, 15, 3, .ref zb), (kr, 15, 4, .ref zc), (kr, 15, 14, .ref zy)]) [1, 2, 3, 4, 5, 6, 7, 8, 9, 10, 11, 12, 13] rfl rfl (M1 := [(zg, 161, 46, ca 1, fg), (zh, 159, 46, ca 1, fh), (zp, 162, 368, ca 1, fp), (zs, 150, 120000, ca 1, C.s), (zn, 151, 120000, ca 1, C.n), (za, 152, 120000, ca 1, C.a), (zb, 153, 120000, ca 1, C.b), (zc, 154, 120000, ca 1, C.c), (zy, 165, 16, ca 1, C.y)]) [0, 1, 2, 3, 4, 5, 6, 7, 8] rfl rfl (I1 := []) [] rfl rfl).more hb_365)
            clear hh_39 ht_36 hvm_36 hz_36 hk_36 hS_36 hb_361 hb_362 hb_363 hb_364 hb_365
            obtain ⟨hr_37_0, hr_37_1⟩ := hr_37
            refine lv_aload_n hx hb dX14_goalsOf_82 rfl (lv_at hl 0 rfl) ?_
            refine j7_read hx hb hown hK (C := RX14) (T := TX14) (N := 74) rfl hly_16_58 hlk_122 (hh_36.at 3 rfl) dX14_goalsOf_83 ?_
            refine lv_iload_n hx hb dX14_goalsOf_86 rfl (lv_at hl 1 rfl) ?_
            refine va_callv (A0 := jA base) (H0 := s.heap) (va_runV (As := [.int v1_23]) (rest := []) ⟨hx, hb, hml, hown, hts⟩ (uX13_printGoal l dC dI ca base B hB hAp hB15 hB101 hB150 hB151 hB152 hB153 hB154 hB155 hB156 hB158 hB159 hB161 hB162 hB163 hB164 hB165 hB166 G0 H_36 kr v1_23 zg zh zp zs zn za zb zc zy gN gY fg fh fp C) (cwV 1 hts (jgV (jWr_70 _ (List.mem_of_getElem? (i := 15) rfl)) (jWr_70 _ (List.mem_of_getElem? (i := 16) rfl)) (jWr_70 _ (List.mem_of_getElem? (i := 17) rfl)) (jWr_12 _ (List.mem_of_getElem? (i := 12) rfl)) (jWr_70 _ (List.mem_of_getElem? (i := 18) rfl))) rfl rfl rfl (by decide +kernel) ⟨by rw [← hR]; exact Nat.le_of_ble_eq_true rfl, by rw [← hR]; exact Nat.le_of_ble_eq_true rfl⟩) ⟨fun a U g mk q => by obtain ⟨q0, q1, q2, qK, q10, q11, q12, q13, q14, q15, q16, q17, q18, q19, q20, q21, q22⟩ := q; exact ⟨q0, q1, q2, jG.calling g mk a qK, q10, q11, q12, q13, q14, q15, q16, q17, q18, q19, q20, q21, q22⟩, hh_36.recv (C := RX13) (T := TX13) (N := 50) hB15 rfl (by decide) hg_kr hK, fun U hU hW => ⟨rfl, hU, hh_36.2.1, hG.step hW hU hh_36.1, hg_kr, hg_zg, hg_zh, hg_zp, hg_zs, hg_zn, hg_za, hg_zb, hg_zc, hg_zy, (hh_36.2.2.1.sub (L1 := [(kr, 15, 22, .ref zg), (kr, 15, 25, .ref zh), (kr, 15, 27, .ref zp), (kr, 15, 0, .ref zs), (kr, 15, 1, .ref zn), (kr, 15, 2, .ref za), (kr, 15, 3, .ref zb), (kr, 15, 4, .ref zc), (kr, 15, 14, .ref zy)]) [5, 6, 7, 8, 9, 10, 11, 12, 13] rfl), (hh_36.2.2.2.2.2.2.2.1.sub (L1 := [(zg, 161, 46, ca 1, fg), (zh, 159, 46, ca 1, fh), (zp, 162, 368, ca 1, fp), (zs, 150, 120000, ca 1, C.s), (zn, 151, 120000, ca 1, C.n), (za, 152, 120000, ca 1, C.a), (zb, 153, 120000, ca 1, C.b), (zc, 154, 120000, ca 1, C.c), (zy, 165, 16, ca 1, C.y)]) [0, 1, 2, 3, 4, 5, 6, 7, 8] rfl), ⟨(by first | assumption | exact hp0 _ (by omega) (by omega) | omega), (by first | omega | rfl | assumption | exact hp0 _ (by omega) (by omega)), (by first | omega | rfl | assumption | exact hp0 _ (by omega) (by omega)), (by first | omega | rfl | assumption | exact hp0 _ (by omega) (by omega)), (by first | omega | rfl | assumption | exact hp0 _ (by omega) (by omega))⟩⟩⟩ rfl rfl hl.1 rfl (lv_room (Nat.le_of_ble_eq_true rfl)) dX14_goalsOf_87 ⟨Nat.zero_le _, Nat.zero_le _⟩) hh_36.1 (fun q _ h => h) (fun q h => h) (fun u_41 t_41 H_41 locs_41 ht_41 hvm_41 hr_42 hb_41 hz_41 hk_41 hS_41 => ?_)
            rw [ht_41] at hb_41
            obtain ⟨hb_411, hb_412, hb_413, hb_414, hb_415⟩ := hb_41
            have hh_41 : jSt (dC, dI) B base G0 G0 EX14_goalsOf s.heap 0 0 [(r0, 16, 6, .int qf_36), (kr, 15, 19, .int lemmaName_13), (kr, 15, 18, .int proof_3), (r0, 16, 58, .ref kr), (kr, 15, 21, .int pg), (kr, 15, 22, .ref zg), (kr, 15, 25, .ref zh), (kr, 15, 27, .ref zp), (kr, 15, 0, .ref zs), (kr, 15, 1, .ref zn), (kr, 15, 2, .ref za), (kr, 15, 3, .ref zb), (kr, 15, 4, .ref zc), (kr, 15, 14, .ref zy)] [(zg, 161, 46, ca 1, fg), (zh, 159, 46, ca 1, fh), (zp, 162, 368, ca 1, fp), (zs, 150, 120000, ca 1, C.s), (zn, 151, 120000, ca 1, C.n), (za, 152, 120000, ca 1, C.a), (zb, 153, 120000, ca 1, C.b), (zc, 154, 120000, ca 1, C.c), (zy, 165, 16, ca 1, C.y)] [] H_41 locs_41 := ((hh_36.call hb_411 hb_412 hb_413 hb_414 hS_41 rfl (L1 := [(r0, 16, 6, .int qf_36), (kr, 15, 19, .int lemmaName_13), (kr, 15, 18, .int proof_3), (r0, 16, 58, .ref kr), (kr, 15, 21, .int pg), (kr, 15, 22, .ref zg), (kr, 15, 25, .ref zh), (kr, 15, 27, .ref zp), (kr, 15, 0, .ref zs), (kr, 15, 1, .ref zn), (kr, 15, 2, .ref za), (kr, 15, 3, .ref zb), (kr, 15, 4, .ref zc), (kr, 15, 14, .ref zy)]) [0, 1, 2, 3, 4, 5, 6, 7, 8, 9, 10, 11, 12, 13] rfl rfl (M1 := [(zg, 161, 46, ca 1, fg), (zh, 159, 46, ca 1, fh), (zp, 162, 368, ca 1, fp), (zs, 150, 120000, ca 1, C.s), (zn, 151, 120000, ca 1, C.n), (za, 152, 120000, ca 1, C.a), (zb, 153, 120000, ca 1, C.b), (zc, 154, 120000, ca 1, C.c), (zy, 165, 16, ca 1, C.y)]) [0, 1, 2, 3, 4, 5, 6, 7, 8] rfl rfl (I1 := []) [] rfl rfl).more hb_415)
            clear hh_36 ht_41 hvm_41 hz_41 hk_41 hS_41 hb_411 hb_412 hb_413 hb_414 hb_415
            refine lv_aload_n hx hb dX14_goalsOf_90 rfl (lv_at hl 0 rfl) ?_
            refine lv_iconst (v := 0) hx hb dX14_goalsOf_91 (by decide) ?_
            refine va_callv (A0 := jA base) (H0 := s.heap) (va_runV (As := [.int 0]) (rest := []) ⟨hx, hb, hml, hown, hts⟩ (uX14_putLine l dC dI ca base B hB hAp hB15 hB16 hB101 G0 H_41 r0 0) (cwV 1 hts (jgV (jWr_70 _ (List.mem_of_getElem? (i := 11) rfl)) (jWr_70 _ (List.mem_of_getElem? (i := 12) rfl)) (jWr_70 _ (List.mem_of_getElem? (i := 13) rfl)) (jWr_1 _ (List.mem_of_getElem? (i := 5) rfl)) (jWr_70 _ (List.mem_of_getElem? (i := 14) rfl))) rfl rfl rfl (by decide +kernel) ⟨by rw [← hR]; exact Nat.le_of_ble_eq_true rfl, by rw [← hR]; exact Nat.le_of_ble_eq_true rfl⟩) ⟨fun a U g mk q => by obtain ⟨q0, q1, q2, qK, q10, q11, q12⟩ := q; exact ⟨q0, q1, q2, jG.calling g mk a qK, q10, q11, q12⟩, hh_41.recv (C := RX14) (T := TX14) (N := 74) hB16 rfl (by decide) hg_r0 hK, fun U hU hW => ⟨rfl, hU, hh_41.2.1, hG.step hW hU hh_41.1, hg_r0, jP.nil, by first | omega | (refine ⟨?_, ?_⟩ <;> (first | omega | rfl | assumption | decide | exact Or.inl rfl | exact Or.inr rfl | (simp only; omega)))⟩⟩ rfl rfl hl.1 rfl (lv_room (Nat.le_of_ble_eq_true rfl)) dX14_goalsOf_92 ⟨Nat.zero_le _, Nat.zero_le _⟩) hh_41.1 (fun q _ h => h) (fun q h => h) (fun u_43 t_43 H_43 locs_43 ht_43 hvm_43 hr_44 hb_43 hz_43 hk_43 hS_43 => ?_)
            rw [ht_43] at hb_43
            obtain ⟨hb_431, hb_432, hb_433, hb_434, hb_435⟩ := hb_43
            have hh_43 : jSt (dC, dI) B base G0 G0 EX14_goalsOf s.heap 0 0 [(kr, 15, 19, .int lemmaName_13), (kr, 15, 18, .int proof_3), (r0, 16, 58, .ref kr), (kr, 15, 21, .int pg), (kr, 15, 22, .ref zg), (kr, 15, 25, .ref zh), (kr, 15, 27, .ref zp), (kr, 15, 0, .ref zs), (kr, 15, 1, .ref zn), (kr, 15, 2, .ref za), (kr, 15, 3, .ref zb), (kr, 15, 4, .ref zc), (kr, 15, 14, .ref zy)] [(zg, 161, 46, ca 1, fg), (zh, 159, 46, ca 1, fh), (zp, 162, 368, ca 1, fp), (zs, 150, 120000, ca 1, C.s), (zn, 151, 120000, ca 1, C.n), (za, 152, 120000, ca 1, C.a), (zb, 153, 120000, ca 1, C.b), (zc, 154, 120000, ca 1, C.c), (zy, 165, 16, ca 1, C.y)] [] H_43 locs_43 := ((hh_41.call hb_431 hb_432 hb_433 hb_434 hS_43 rfl (L1 := [(kr, 15, 19, .int lemmaName_13), (kr, 15, 18, .int proof_3), (r0, 16, 58, .ref kr), (kr, 15, 21, .int pg), (kr, 15, 22, .ref zg), (kr, 15, 25, .ref zh), (kr, 15, 27, .ref zp), (kr, 15, 0, .ref zs), (kr, 15, 1, .ref zn), (kr, 15, 2, .ref za), (kr, 15, 3, .ref zb), (kr, 15, 4, .ref zc), (kr, 15, 14, .ref zy)]) [1, 2, 3, 4, 5, 6, 7, 8, 9, 10, 11, 12, 13] rfl rfl (M1 := [(zg, 161, 46, ca 1, fg), (zh, 159, 46, ca 1, fh), (zp, 162, 368, ca 1, fp), (zs, 150, 120000, ca 1, C.s), (zn, 151, 120000, ca 1, C.n), (za, 152, 120000, ca 1, C.a), (zb, 153, 120000, ca 1, C.b), (zc, 154, 120000, ca 1, C.c), (zy, 165, 16, ca 1, C.y)]) [0, 1, 2, 3, 4, 5, 6, 7, 8] rfl rfl (I1 := []) [] rfl rfl).more hb_435)
            clear hh_41 ht_43 hvm_43 hz_43 hk_43 hS_43 hb_431 hb_432 hb_433 hb_434 hb_435
            obtain ⟨z_45, ez_45⟩ : ∃ y : Int32, y = v1_23 + 1 := ⟨_, rfl⟩
            refine lv_iinc (v := z_45) (lv' := [(1, .int z_45), (0, .ref r0)]) hx hb dX14_goalsOf_95 hl (k := 1) rfl (by rw [ez_45]; rfl) (by decide) rfl (fun ls hl => ?_)
            have hz_45 : z_45.toInt = v1_23.toInt + 1 := by rw [ez_45]; exact jb_iadd2 (rfl) (by decide) (by omega)
            refine lv_goto (tgt := 61) hx hb dX14_goalsOf_98 (by decide) ?_
            exact L61 z_45 _ _ hh_43 (by first | omega | (refine ⟨?_, ?_⟩ <;> (first | omega | rfl | assumption | decide | exact Or.inl rfl | exact Or.inr rfl | (simp only; omega)))) (by omega) _ (lv_sub hl [1, 0] rfl)
    exact L61 (pg.toInt - (0 : Int32).toInt : Int).toNat.succ 0 _ _ (hh_18.sub (L1 := [(kr, 15, 19, .int lemmaName_13), (kr, 15, 18, .int proof_3), (r0, 16, 58, .ref kr), (kr, 15, 21, .int pg), (kr, 15, 22, .ref zg), (kr, 15, 25, .ref zh), (kr, 15, 27, .ref zp), (kr, 15, 0, .ref zs), (kr, 15, 1, .ref zn), (kr, 15, 2, .ref za), (kr, 15, 3, .ref zb), (kr, 15, 4, .ref zc), (kr, 15, 14, .ref zy)]) [1, 2, 3, 4, 5, 6, 7, 8, 9, 10, 11, 12, 13] rfl (M1 := [(zg, 161, 46, ca 1, fg), (zh, 159, 46, ca 1, fh), (zp, 162, 368, ca 1, fp), (zs, 150, 120000, ca 1, C.s), (zn, 151, 120000, ca 1, C.n), (za, 152, 120000, ca 1, C.a), (zb, 153, 120000, ca 1, C.b), (zc, 154, 120000, ca 1, C.c), (zy, 165, 16, ca 1, C.y)]) [0, 1, 2, 3, 4, 5, 6, 7, 8] rfl (I1 := []) [] rfl) (by first | omega | (refine ⟨?_, ?_⟩ <;> (first | omega | rfl | assumption | decide | exact Or.inl rfl | exact Or.inr rfl | (simp only; omega)))) (by omega) _ (lv_sub hl [1, 0] rfl)
  · skip
    have c_4' : proof_3.toInt = 0 := jb_ne_n (rfl) ((by decide)) c_4
    refine lv_aload_n hx hb dX14_goalsOf_10 rfl (lv_at hl 0 rfl) ?_
    refine j_ldcSw hx hb hown rstr307 dX14_goalsOf_11 ?_
    obtain ⟨v_48, hv_48, hh_49⟩ := hh_2.pin (C := RX14) (T := TX14) (N := 74) hB16 rfl (by decide) hg_r0 (i := 6) (by decide) rfl
    obtain ⟨framed_50, rfl, hloframed_50, hhiframed_50⟩ := hv_48
    refine va_callv (A0 := jA base) (H0 := s.heap) (va_runV (As := [.ref str307]) (rest := []) ⟨hx, hb, hml, hown, hts⟩ (uX14_word l dC dI ca base B hB hAp hB16 hB101 G0 s.heap r0 str307 4 framed_50) (cwV 1 hts (jgV (jWr_53 _ (List.mem_of_getElem? (i := 22) rfl)) (jWr_53 _ (List.mem_of_getElem? (i := 23) rfl)) (jWr_54 _ (List.mem_of_getElem? (i := 0) rfl)) (jWr_1 _ (List.mem_of_getElem? (i := 5) rfl)) (jWr_54 _ (List.mem_of_getElem? (i := 1) rfl))) rfl rfl rfl (by decide +kernel) ⟨by rw [← hR]; exact Nat.le_of_ble_eq_true rfl, by rw [← hR]; exact Nat.le_of_ble_eq_true rfl⟩) ⟨fun a U g mk q => by obtain ⟨q0, q1, q2, qK, q10, q11, q12, q13⟩ := q; exact ⟨q0, q1, q2, jG.calling g mk a qK, (q10.moved (Vm.Alike.refl U.vm)), q11, q12, q13⟩, hh_49.recv (C := RX14) (T := TX14) (N := 74) hB16 rfl (by decide) hg_r0 hK, fun U hU hW => ⟨rfl, hU, hh_49.2.1, hG.step hW hU hh_49.1, (hstr307.moved hW.alike).kept hh_49.1.2.1, hg_r0, (hh_49.2.2.1.sub (L1 := [(r0, 16, 6, .int framed_50)]) [0] rfl), by first | omega | (refine ⟨?_, ?_, ?_⟩ <;> (first | omega | rfl | assumption | decide | exact Or.inl rfl | exact Or.inr rfl | (simp only; omega)))⟩⟩ rfl rfl hl.1 rfl (lv_room (Nat.le_of_ble_eq_true rfl)) dX14_goalsOf_14 ⟨Nat.zero_le _, Nat.zero_le _⟩) hh_49.1 (fun q _ h => h) (fun q h => h) (fun u_46 t_46 H_46 locs_46 ht_46 hvm_46 hr_47 hb_46 hz_46 hk_46 hS_46 => ?_)
    obtain ⟨qf_46, rfl⟩ : ∃ z, z = u_46 := ⟨_, rfl⟩
    rw [ht_46] at hb_46
    obtain ⟨hb_461, hb_462, hb_463, hb_464, hb_465⟩ := hb_46
    have hh_46 : jSt (dC, dI) B base G0 G0 EX14_goalsOf s.heap 0 0 [(r0, 16, 6, .int qf_46), (kr, 15, 18, .int proof_3), (r0, 16, 58, .ref kr), (kr, 15, 21, .int pg), (kr, 15, 22, .ref zg), (kr, 15, 25, .ref zh), (kr, 15, 27, .ref zp), (kr, 15, 0, .ref zs), (kr, 15, 1, .ref zn), (kr, 15, 2, .ref za), (kr, 15, 3, .ref zb), (kr, 15, 4, .ref zc), (kr, 15, 14, .ref zy)] [(zg, 161, 46, ca 1, fg), (zh, 159, 46, ca 1, fh), (zp, 162, 368, ca 1, fp), (zs, 150, 120000, ca 1, C.s), (zn, 151, 120000, ca 1, C.n), (za, 152, 120000, ca 1, C.a), (zb, 153, 120000, ca 1, C.b), (zc, 154, 120000, ca 1, C.c), (zy, 165, 16, ca 1, C.y)] [] H_46 locs_46 := ((hh_49.call hb_461 hb_462 hb_463 hb_464 hS_46 rfl (L1 := [(kr, 15, 18, .int proof_3), (r0, 16, 58, .ref kr), (kr, 15, 21, .int pg), (kr, 15, 22, .ref zg), (kr, 15, 25, .ref zh), (kr, 15, 27, .ref zp), (kr, 15, 0, .ref zs), (kr, 15, 1, .ref zn), (kr, 15, 2, .ref za), (kr, 15, 3, .ref zb), (kr, 15, 4, .ref zc), (kr, 15, 14, .ref zy)]) [1, 2, 3, 4, 5, 6, 7, 8, 9, 10, 11, 12] rfl rfl (M1 := [(zg, 161, 46, ca 1, fg), (zh, 159, 46, ca 1, fh), (zp, 162, 368, ca 1, fp), (zs, 150, 120000, ca 1, C.s), (zn, 151, 120000, ca 1, C.n), (za, 152, 120000, ca 1, C.a), (zb, 153, 120000, ca 1, C.b), (zc, 154, 120000, ca 1, C.c), (zy, 165, 16, ca 1, C.y)]) [0, 1, 2, 3, 4, 5, 6, 7, 8] rfl rfl (I1 := []) [] rfl rfl).more hb_465)
    clear hh_49 ht_46 hvm_46 hz_46 hk_46 hS_46 hb_461 hb_462 hb_463 hb_464 hb_465
    obtain ⟨hr_47_0, hr_47_1⟩ := hr_47
    rw [hQ]
    exact W.vret hx hb hr (fun t ht hW => ⟨⟨(), rfl, trivial, hh_46.rt (M1 := []) [] rfl ht⟩, by rw [ht]; try exact hh_46.1.1, fun q h9 hq => by rw [ht]; try exact hh_46.1.2.1 q h9 hq⟩) hh_46.1.2.2 dX14_goalsOf_17
set_option maxHeartbeats 4000000 in
set_option maxRecDepth 20000 in
theorem uX14_statementOf (l : Launch) (dC : Nat → ClassId) (dI : Nat → Nat → Nat) (ca : Nat → ClassId) (base : Nat) (B : jF) (hB : jBok B) (hAp : jAp (dC, dI)) (hB15 : ∀ n G a H, B 15 n G a H ↔ jOb (dC, dI) 15 50 (F15 n G) a H) (hB16 : ∀ n G a H, B 16 n G a H ↔ jOb (dC, dI) 16 74 (F16 n G) a H) (hB101 : ∀ n G a H, B 101 n G a H ↔ jAr (dC, dI) (ca 1) (fun j z => True) n a H) (hB150 : ∀ n G a H, B 150 n G a H ↔ jAr (dC, dI) (ca 1) (fun j z => True) n a H) (hB151 : ∀ n G a H, B 151 n G a H ↔ jAr (dC, dI) (ca 1) (fun j z => True) n a H) (hB152 : ∀ n G a H, B 152 n G a H ↔ jAr (dC, dI) (ca 1) (fun j z => True) n a H) (hB153 : ∀ n G a H, B 153 n G a H ↔ jAr (dC, dI) (ca 1) (fun j z => True) n a H) (hB154 : ∀ n G a H, B 154 n G a H ↔ jAr (dC, dI) (ca 1) (fun j z => True) n a H) (hB155 : ∀ n G a H, B 155 n G a H ↔ jAr (dC, dI) (ca 1) (fun j z => 0 ≤ z.toInt ∧ z.toInt ≤ 11990) n a H) (hB156 : ∀ n G a H, B 156 n G a H ↔ jAr (dC, dI) (ca 1) (fun j z => 0 ≤ z.toInt ∧ z.toInt ≤ 10) n a H) (hB160 : ∀ n G a H, B 160 n G a H ↔ jAr (dC, dI) (ca 1) (fun j z => 0 ≤ z.toInt ∧ z.toInt ≤ 119999) n a H) (hB163 : ∀ n G a H, B 163 n G a H ↔ jAr (dC, dI) (ca 1) (fun j z => 0 ≤ z.toInt ∧ z.toInt ≤ 1599) n a H) (hB164 : ∀ n G a H, B 164 n G a H ↔ jAr (dC, dI) (ca 1) (fun j z => 0 ≤ z.toInt ∧ z.toInt ≤ 100000) n a H) (hB165 : ∀ n G a H, B 165 n G a H ↔ jAr (dC, dI) (ca 1) (fun j z => 0 ≤ z.toInt ∧ z.toInt ≤ 3) n a H) (hB166 : ∀ n G a H, B 166 n G a H ↔ jAr (dC, dI) (ca 1) (fun j z => True) n a H) (G0 : jT) (H0 : Heap) (r0 : Nat) (r1 : Nat) (a2 : Int32) (a3 : Int32) (n1 : Nat) (kr : Nat) (pf : Int32) (py : Int32) (zf : Nat) (zs : Nat) (zn : Nat) (za : Nat) (zb : Nat) (zc : Nat) (zy : Nat) (gN : Int) (gY : Int) (ff : Nat → Int32) (C : jK) : Met l yX14_statementOf (jw yX14_statementOf cX14_statementOf 7 none) ({ frames := 252, cells := 0, slots := 0, locals := 8244 }) (va_Pc [.ref r0, .ref r1, .int a2, .int a3] (fun U => U.heap = H0 ∧ jX B base G0 [] H0 ∧ jG dC dI ca base U ∧ G0 r1 = some (101, n1) ∧ G0 r0 = some (16, 0) ∧ G0 kr = some (15, 0) ∧ G0 zf = some (160, 16) ∧ G0 zs = some (150, 120000) ∧ G0 zn = some (151, 120000) ∧ G0 za = some (152, 120000) ∧ G0 zb = some (153, 120000) ∧ G0 zc = some (154, 120000) ∧ G0 zy = some (165, 16) ∧ jP (dC, dI) G0 H0 [(r0, 16, 58, .ref kr), (kr, 15, 15, .int pf), (kr, 15, 11, .int py), (kr, 15, 17, .ref zf), (kr, 15, 0, .ref zs), (kr, 15, 1, .ref zn), (kr, 15, 2, .ref za), (kr, 15, 3, .ref zb), (kr, 15, 4, .ref zc), (kr, 15, 14, .ref zy)] ∧ jMc (dC, dI) G0 H0 [(zf, 160, 16, ca 1, ff), (zs, 150, 120000, ca 1, C.s), (zn, 151, 120000, ca 1, C.n), (za, 152, 120000, ca 1, C.a), (zb, 153, 120000, ca 1, C.b), (zc, 154, 120000, ca 1, C.c), (zy, 165, 16, ca 1, C.y)] ∧ jFa (jG1 C gN gY) ff pf.toInt ∧ 0 ≤ pf.toInt ∧ pf.toInt ≤ 16 ∧ 0 ≤ py.toInt ∧ py.toInt ≤ 16 ∧ gN ≤ 120000 ∧ gY ≤ 16 ∧ 0 ≤ a2.toInt ∧ a2.toInt + a3.toInt ≤ n1 ∧ n1 ≤ 200000)) (va_Qv (S := Unit) (fun u => True) (fun u t => jRt (dC, dI) B base G0 EX14_statementOf H0 [] t.heap) (jA base)) 0 0 (jA base) := by
  refine Met.ofW (cc := cX14_statementOf) (maxL := 7) (ret := none) (by decide) rfl ?_
  intro p e s m args below meth c s₁ Bd hml hv
  obtain ⟨rfl, hH0, hX, hG, hg_r1, hg_r0, hg_kr, hg_zf, hg_zs, hg_zn, hg_za, hg_zb, hg_zc, hg_zy, hP0, hM0, hp0, hp1, hp2, hp3, hp4, hp5, hp6, hp7, hp8, hp9⟩ := hv
  have hK := hG.1
  have hx := Bd.exec
  have hb := Bd.bytes
  have hr := Bd.returns
  have hts := atoms_spec (ws := (jw yX14_statementOf cX14_statementOf 7 none)) Bd.pre
  have htw : ∀ w ∈ jWl, w.before _ s = true := fun w h => hts w (List.mem_cons_of_mem _ h)
  have hown : s.vm.findClass RX14 = some m.cls := findClass_of_methodNamed Bd.named
  have hlocks := Bd.notSynchronized
  obtain ⟨Q, hQ⟩ : ∃ Q, Q = MQ below (va_Qv (S := Unit) (fun u => True) (fun u t => jRt (dC, dI) B base G0 EX14_statementOf H0 [] t.heap) (jA base)) ([.ref r0, .ref r1, .int a2, .int a3] : List Value).toArray s 0 0 (jA base) := ⟨_, rfl⟩
  rw [← hQ]
  have hl := lv_entry ([.ref r0, .ref r1, .int a2, .int a3]) (n := 7) (Nat.le_of_ble_eq_true rfl)
  rw [lg_entry_eq]
  generalize (lg_sl ([.ref r0, .ref r1, .int a2, .int a3]) ++ List.replicate (7 - (lg_sl ([.ref r0, .ref r1, .int a2, .int a3])).length) Slot.unset).toArray = ls at hl ⊢
  have hl : lv_has ls 7 [(0, .ref r0), (1, .ref r1), (2, .int a2), (3, .int a3)] := hl
  generalize hR : (headSpec (jw yX14_statementOf cX14_statementOf 7 none) ({ frames := 252, cells := 0, slots := 0, locals := 8244 })).room = R
  subst hH0
  have hh : jSt (dC, dI) B base G0 G0 EX14_statementOf s.heap 0 0 [(r0, 16, 58, .ref kr), (kr, 15, 15, .int pf), (kr, 15, 11, .int py), (kr, 15, 17, .ref zf), (kr, 15, 0, .ref zs), (kr, 15, 1, .ref zn), (kr, 15, 2, .ref za), (kr, 15, 3, .ref zb), (kr, 15, 4, .ref zc), (kr, 15, 14, .ref zy)] [(zf, 160, 16, ca 1, ff), (zs, 150, 120000, ca 1, C.s), (zn, 151, 120000, ca 1, C.n), (za, 152, 120000, ca 1, C.a), (zb, 153, 120000, ca 1, C.b), (zc, 154, 120000, ca 1, C.c), (zy, 165, 16, ca 1, C.y)] [] s.heap [] := jSt.start hX hP0 hM0 jIs.nil
  clear hX hP0
  have hkm1 : ((-1) : Int32).toInt = (-1) := by decide
  have hk0 : (0 : Int32).toInt = 0 := by decide
  have hk1 : (1 : Int32).toInt = 1 := by decide
  have hly_15_11 := htw (u_lay RX13 TX13 11) (jWc_wsX130 _ (u_in_lay (by decide)))
  have hly_15_12 := htw (u_lay RX13 TX13 12) (jWc_wsX130 _ (u_in_lay (by decide)))
  have hly_15_14 := htw (u_lay RX13 TX13 14) (jWc_wsX130 _ (u_in_lay (by decide)))
  have hly_15_15 := htw (u_lay RX13 TX13 15) (jWc_wsX130 _ (u_in_lay (by decide)))
  have hly_15_16 := htw (u_lay RX13 TX13 16) (jWc_wsX130 _ (u_in_lay (by decide)))
  have hly_15_17 := htw (u_lay RX13 TX13 17) (jWc_wsX130 _ (u_in_lay (by decide)))
  have hly_15_46 := htw (u_lay RX13 TX13 46) (jWc_wsX130 _ (u_in_lay (by decide)))
  have hly_16_58 := htw (u_lay RX14 TX14 58) (jWc_wsX140 _ (u_in_lay (by decide)))
  have hlk_122 := (htw (.fieldLink RX14 122 "ProofServerModel" "kernel" "LProofServerModel$Kernel;") (jWr_12 _ (List.mem_of_getElem? (i := 13) rfl)))
  have hlk_661 := (va_Nw.use (A := ([.ref r0, .ref r1, .int a2, .int a3] : List Value).toArray) rfl (hG.2.1 RX14 661 "ProofServerModel$Kernel" "facts" "I" "ProofServerModel" (List.mem_of_getElem? (i := 1802) (by decide +kernel))))
  have hlk_664 := (va_Nw.use (A := ([.ref r0, .ref r1, .int a2, .int a3] : List Value).toArray) rfl (hG.2.1 RX14 664 "ProofServerModel$Kernel" "factName" "[I" "ProofServerModel" (List.mem_of_getElem? (i := 1804) (by decide +kernel))))
  have hlk_671 := (va_Nw.use (A := ([.ref r0, .ref r1, .int a2, .int a3] : List Value).toArray) rfl (hG.2.1 RX14 671 "ProofServerModel$Kernel" "symbols" "I" "ProofServerModel" (List.mem_of_getElem? (i := 1795) (by decide +kernel))))
  have hlk_674 := (va_Nw.use (A := ([.ref r0, .ref r1, .int a2, .int a3] : List Value).toArray) rfl (hG.2.1 RX14 674 "ProofServerModel$Kernel" "symbol" "[I" "ProofServerModel" (List.mem_of_getElem? (i := 1797) (by decide +kernel))))
  have hlk_634 := (va_Nw.use (A := ([.ref r0, .ref r1, .int a2, .int a3] : List Value).toArray) rfl (hG.2.1 RX14 634 "ProofServerModel$Kernel" "lines" "I" "ProofServerModel" (List.mem_of_getElem? (i := 1840) (by decide +kernel))))
  have hlk_677 := (va_Nw.use (A := ([.ref r0, .ref r1, .int a2, .int a3] : List Value).toArray) rfl (hG.2.1 RX14 677 "ProofServerModel$Kernel" "fact" "[I" "ProofServerModel" (List.mem_of_getElem? (i := 1806) (by decide +kernel))))
  have hlk_683 := (va_Nw.use (A := ([.ref r0, .ref r1, .int a2, .int a3] : List Value).toArray) rfl (hG.2.1 RX14 683 "ProofServerModel$Kernel" "arity" "[I" "ProofServerModel" (List.mem_of_getElem? (i := 1800) (by decide +kernel))))
  obtain ⟨str307, rstr307, hstr3070⟩ := hG.str (o := RX14) (k := 307) (tx := "null") (List.mem_of_getElem? (i := 2366) (by decide +kernel))
  have hstr307 : jStr base str307 4 s s.heap := hstr3070
  have hrg_a2 := jb_rng a2
  have hrg_a3 := jb_rng a3
  refine lv_iconst (v := (-1)) hx hb dX14_statementOf_0 (by decide) ?_
  refine lv_istore (lv' := [(4, .int (-1)), (0, .ref r0), (1, .ref r1), (2, .int a2), (3, .int a3)]) hx hb dX14_statementOf_1 hl (by decide) rfl (fun ls hl => ?_)
  refine lv_iconst (v := (-1)) hx hb dX14_statementOf_3 (by decide) ?_
  refine lv_istore (lv' := [(5, .int (-1)), (4, .int (-1)), (0, .ref r0), (1, .ref r1), (2, .int a2), (3, .int a3)]) hx hb dX14_statementOf_4 hl (by decide) rfl (fun ls hl => ?_)
  refine lv_iconst (v := 0) hx hb dX14_statementOf_6 (by decide) ?_
  refine lv_istore (lv' := [(6, .int 0), (5, .int (-1)), (4, .int (-1)), (0, .ref r0), (1, .ref r1), (2, .int a2), (3, .int a3)]) hx hb dX14_statementOf_7 hl (by decide) rfl (fun ls hl => ?_)
  have L9 : ∀ (N : Nat) (v4_1 : Int32) (v6_1 : Int32) (H_1 : Heap) (locs_1 : List Loc), jSt (dC, dI) B base G0 G0 EX14_statementOf s.heap 0 0 [(r0, 16, 58, .ref kr), (kr, 15, 15, .int pf), (kr, 15, 11, .int py), (kr, 15, 17, .ref zf), (kr, 15, 0, .ref zs), (kr, 15, 1, .ref zn), (kr, 15, 2, .ref za), (kr, 15, 3, .ref zb), (kr, 15, 4, .ref zc), (kr, 15, 14, .ref zy)] [(zf, 160, 16, ca 1, ff), (zs, 150, 120000, ca 1, C.s), (zn, 151, 120000, ca 1, C.n), (za, 152, 120000, ca 1, C.a), (zb, 153, 120000, ca 1, C.b), (zc, 154, 120000, ca 1, C.c), (zy, 165, 16, ca 1, C.y)] [] H_1 locs_1 → (0 ≤ v6_1.toInt ∧ v6_1.toInt ≤ pf.toInt ∧ -1 ≤ v4_1.toInt ∧ v4_1.toInt < pf.toInt) → (pf.toInt - v6_1.toInt : Int) < N → ∀ ls : Array Slot, lv_has ls 7 [(0, .ref r0), (1, .ref r1), (2, .int a2), (3, .int a3), (4, .int v4_1), (5, .int (-1)), (6, .int v6_1)] → W p l e R s m ([.ref r0, .ref r1, .int a2, .int a3] : List Value).toArray below meth c H_1 locs_1 0 0 Q (F0 m 9 ls []) := by
    intro N
    induction N with
    | zero => intro v4_1 v6_1 H_1 locs_1 hh_1  hi_1 hm; exact absurd hm (by omega)
    | succ N L9 =>
      intro v4_1 v6_1 H_1 locs_1 hh_1  hi_1 hm_1 ls hl
      obtain ⟨hi_1_0, hi_1_1, hi_1_2, hi_1_3⟩ := hi_1
      refine lv_iload hx hb dX14_statementOf_9 (lv_at hl 6 rfl) ?_
      refine lv_aload_n hx hb dX14_statementOf_11 rfl (lv_at hl 0 rfl) ?_
      refine j7_read hx hb hown hK (C := RX14) (T := TX14) (N := 74) rfl hly_16_58 hlk_122 (hh_1.at 0 rfl) dX14_statementOf_12 ?_
      refine j7_readN hx hb hown hK (C := RX13) (T := TX13) (N := 50) rfl hly_15_15 hlk_661 (hh_1.at 1 rfl) dX14_statementOf_15 ?_
      refine lv_icmp_ge (tgt := 51) hx hb dX14_statementOf_18 (by decide) (fun c_2 => ?_) (fun c_2 => ?_)
      · skip
        have c_2' : v6_1.toInt ≥ pf.toInt := jb_ge (rfl) (rfl) c_2
        refine lv_iconst (v := 0) hx hb dX14_statementOf_51 (by decide) ?_
        refine lv_istore (lv' := [(6, .int 0), (0, .ref r0), (1, .ref r1), (2, .int a2), (3, .int a3), (4, .int v4_1), (5, .int (-1))]) hx hb dX14_statementOf_52 hl (by decide) rfl (fun ls hl => ?_)
        have L54 : ∀ (N : Nat) (v5_3 : Int32) (v6_3 : Int32) (H_3 : Heap) (locs_3 : List Loc), jSt (dC, dI) B base G0 G0 EX14_statementOf s.heap 0 0 [(r0, 16, 58, .ref kr), (kr, 15, 15, .int pf), (kr, 15, 11, .int py), (kr, 15, 17, .ref zf), (kr, 15, 0, .ref zs), (kr, 15, 1, .ref zn), (kr, 15, 2, .ref za), (kr, 15, 3, .ref zb), (kr, 15, 4, .ref zc), (kr, 15, 14, .ref zy)] [(zf, 160, 16, ca 1, ff), (zs, 150, 120000, ca 1, C.s), (zn, 151, 120000, ca 1, C.n), (za, 152, 120000, ca 1, C.a), (zb, 153, 120000, ca 1, C.b), (zc, 154, 120000, ca 1, C.c), (zy, 165, 16, ca 1, C.y)] [] H_3 locs_3 → (0 ≤ v6_3.toInt ∧ v6_3.toInt ≤ py.toInt ∧ -1 ≤ v5_3.toInt ∧ v5_3.toInt < py.toInt) → (py.toInt - v6_3.toInt : Int) < N → ∀ ls : Array Slot, lv_has ls 7 [(0, .ref r0), (1, .ref r1), (2, .int a2), (3, .int a3), (4, .int v4_1), (5, .int v5_3), (6, .int v6_3)] → W p l e R s m ([.ref r0, .ref r1, .int a2, .int a3] : List Value).toArray below meth c H_3 locs_3 0 0 Q (F0 m 54 ls []) := by
          intro N
          induction N with
          | zero => intro v5_3 v6_3 H_3 locs_3 hh_3  hi_3 hm; exact absurd hm (by omega)
          | succ N L54 =>
            intro v5_3 v6_3 H_3 locs_3 hh_3  hi_3 hm_3 ls hl
            obtain ⟨hi_3_0, hi_3_1, hi_3_2, hi_3_3⟩ := hi_3
            refine lv_iload hx hb dX14_statementOf_54 (lv_at hl 6 rfl) ?_
            refine lv_aload_n hx hb dX14_statementOf_56 rfl (lv_at hl 0 rfl) ?_
            refine j7_read hx hb hown hK (C := RX14) (T := TX14) (N := 74) rfl hly_16_58 hlk_122 (hh_3.at 0 rfl) dX14_statementOf_57 ?_
            refine j7_readN hx hb hown hK (C := RX13) (T := TX13) (N := 50) rfl hly_15_11 hlk_671 (hh_3.at 2 rfl) dX14_statementOf_60 ?_
            refine lv_icmp_ge (tgt := 96) hx hb dX14_statementOf_63 (by decide) (fun c_4 => ?_) (fun c_4 => ?_)
            · skip
              have c_4' : v6_3.toInt ≥ py.toInt := jb_ge (rfl) (rfl) c_4
              refine lv_iload hx hb dX14_statementOf_96 (lv_at hl 4 rfl) ?_
              refine lv_if_lt (tgt := 134) hx hb dX14_statementOf_98 (by decide) (fun c_5 => ?_) (fun c_5 => ?_)
              · skip
                have c_5' : v4_1.toInt < 0 := jb_lt (rfl) ((by decide)) c_5
                refine lv_iload hx hb dX14_statementOf_134 (lv_at hl 5 rfl) ?_
                refine lv_if_lt (tgt := 156) hx hb dX14_statementOf_136 (by decide) (fun c_6 => ?_) (fun c_6 => ?_)
                · skip
                  have c_6' : v5_3.toInt < 0 := jb_lt (rfl) ((by decide)) c_6
                  refine lv_aload_n hx hb dX14_statementOf_156 rfl (lv_at hl 0 rfl) ?_
                  refine j_ldcSw hx hb hown rstr307 dX14_statementOf_157 ?_
                  obtain ⟨v_9, hv_9, hh_10⟩ := hh_3.pin (C := RX14) (T := TX14) (N := 74) hB16 rfl (by decide) hg_r0 (i := 6) (by decide) rfl
                  obtain ⟨framed_11, rfl, hloframed_11, hhiframed_11⟩ := hv_9
                  refine va_callv (A0 := jA base) (H0 := s.heap) (va_runV (As := [.ref str307]) (rest := []) ⟨hx, hb, hml, hown, hts⟩ (uX14_word l dC dI ca base B hB hAp hB16 hB101 G0 H_3 r0 str307 4 framed_11) (cwV 1 hts (jgV (jWr_53 _ (List.mem_of_getElem? (i := 22) rfl)) (jWr_53 _ (List.mem_of_getElem? (i := 23) rfl)) (jWr_54 _ (List.mem_of_getElem? (i := 0) rfl)) (jWr_1 _ (List.mem_of_getElem? (i := 5) rfl)) (jWr_54 _ (List.mem_of_getElem? (i := 1) rfl))) rfl rfl rfl (by decide +kernel) ⟨by rw [← hR]; exact Nat.le_of_ble_eq_true rfl, by rw [← hR]; exact Nat.le_of_ble_eq_true rfl⟩) ⟨fun a U g mk q => by obtain ⟨q0, q1, q2, qK, q10, q11, q12, q13⟩ := q; exact ⟨q0, q1, q2, jG.calling g mk a qK, (q10.moved (Vm.Alike.refl U.vm)), q11, q12, q13⟩, hh_10.recv (C := RX14) (T := TX14) (N := 74) hB16 rfl (by decide) hg_r0 hK, fun U hU hW => ⟨rfl, hU, hh_10.2.1, hG.step hW hU hh_10.1, (hstr307.moved hW.alike).kept hh_10.1.2.1, hg_r0, (hh_10.2.2.1.sub (L1 := [(r0, 16, 6, .int framed_11)]) [0] rfl), by first | omega | (refine ⟨?_, ?_, ?_⟩ <;> (first | omega | rfl | assumption | decide | exact Or.inl rfl | exact Or.inr rfl | (simp only; omega)))⟩⟩ rfl rfl hl.1 rfl (lv_room (Nat.le_of_ble_eq_true rfl)) dX14_statementOf_160 ⟨Nat.zero_le _, Nat.zero_le _⟩) hh_10.1 (fun q _ h => h) (fun q h => h) (fun u_7 t_7 H_7 locs_7 ht_7 hvm_7 hr_8 hb_7 hz_7 hk_7 hS_7 => ?_)
                  obtain ⟨qf_7, rfl⟩ : ∃ z, z = u_7 := ⟨_, rfl⟩
                  rw [ht_7] at hb_7
                  obtain ⟨hb_71, hb_72, hb_73, hb_74, hb_75⟩ := hb_7
                  have hh_7 : jSt (dC, dI) B base G0 G0 EX14_statementOf s.heap 0 0 [(r0, 16, 6, .int qf_7), (r0, 16, 58, .ref kr), (kr, 15, 15, .int pf), (kr, 15, 11, .int py), (kr, 15, 17, .ref zf), (kr, 15, 0, .ref zs), (kr, 15, 1, .ref zn), (kr, 15, 2, .ref za), (kr, 15, 3, .ref zb), (kr, 15, 4, .ref zc), (kr, 15, 14, .ref zy)] [(zf, 160, 16, ca 1, ff), (zs, 150, 120000, ca 1, C.s), (zn, 151, 120000, ca 1, C.n), (za, 152, 120000, ca 1, C.a), (zb, 153, 120000, ca 1, C.b), (zc, 154, 120000, ca 1, C.c), (zy, 165, 16, ca 1, C.y)] [] H_7 locs_7 := ((hh_10.call hb_71 hb_72 hb_73 hb_74 hS_7 rfl (L1 := [(r0, 16, 58, .ref kr), (kr, 15, 15, .int pf), (kr, 15, 11, .int py), (kr, 15, 17, .ref zf), (kr, 15, 0, .ref zs), (kr, 15, 1, .ref zn), (kr, 15, 2, .ref za), (kr, 15, 3, .ref zb), (kr, 15, 4, .ref zc), (kr, 15, 14, .ref zy)]) [1, 2, 3, 4, 5, 6, 7, 8, 9, 10] rfl rfl (M1 := [(zf, 160, 16, ca 1, ff), (zs, 150, 120000, ca 1, C.s), (zn, 151, 120000, ca 1, C.n), (za, 152, 120000, ca 1, C.a), (zb, 153, 120000, ca 1, C.b), (zc, 154, 120000, ca 1, C.c), (zy, 165, 16, ca 1, C.y)]) [0, 1, 2, 3, 4, 5, 6] rfl rfl (I1 := []) [] rfl rfl).more hb_75)
                  clear hh_10 ht_7 hvm_7 hz_7 hk_7 hS_7 hb_71 hb_72 hb_73 hb_74 hb_75
                  obtain ⟨hr_8_0, hr_8_1⟩ := hr_8
                  rw [hQ]
                  exact W.vret hx hb hr (fun t ht hW => ⟨⟨(), rfl, trivial, hh_7.rt (M1 := []) [] rfl ht⟩, by rw [ht]; try exact hh_7.1.1, fun q h9 hq => by rw [ht]; try exact hh_7.1.2.1 q h9 hq⟩) hh_7.1.2.2 dX14_statementOf_163
                · skip
                  have c_6' : v5_3.toInt ≥ 0 := jb_lt_n (rfl) ((by decide)) c_6
                  refine lv_aload_n hx hb dX14_statementOf_139 rfl (lv_at hl 0 rfl) ?_
                  refine lv_aload_n hx hb dX14_statementOf_140 rfl (lv_at hl 0 rfl) ?_
                  refine j7_read hx hb hown hK (C := RX14) (T := TX14) (N := 74) rfl hly_16_58 hlk_122 (hh_3.at 0 rfl) dX14_statementOf_141 ?_
                  refine j7_readN hx hb hown hK (C := RX13) (T := TX13) (N := 50) rfl hly_15_14 hlk_683 (hh_3.at 9 rfl) dX14_statementOf_144 ?_
                  refine lv_iload hx hb dX14_statementOf_147 (lv_at hl 5 rfl) ?_
                  refine j7_ialdM hx hb hK hh_3 hB165 1 rfl (by decide) hg_zy (x := v5_3.toInt) (rfl) (by omega) (j := 6) rfl dX14_statementOf_149 (fun z_12 ez_12 (hz_12 : 0 ≤ z_12.toInt ∧ z_12.toInt ≤ 3) => ?_)
                  have hqz_12 : z_12.toInt = jSo C.y (v5_3.toInt) := by unfold jSo; rw [ez_12]
                  obtain ⟨v_15, hv_15, hh_16⟩ := hh_3.pin (C := RX14) (T := TX14) (N := 74) hB16 rfl (by decide) hg_r0 (i := 6) (by decide) rfl
                  obtain ⟨framed_17, rfl, hloframed_17, hhiframed_17⟩ := hv_15
                  refine va_callv (A0 := jA base) (H0 := s.heap) (va_runV (As := [.int z_12]) (rest := []) ⟨hx, hb, hml, hown, hts⟩ (uX14_number l dC dI ca base B hB hAp hB16 hB101 G0 H_3 r0 z_12 framed_17) (cwV 1 hts (jgV (jWr_54 _ (List.mem_of_getElem? (i := 18) rfl)) (jWr_54 _ (List.mem_of_getElem? (i := 19) rfl)) (jWr_54 _ (List.mem_of_getElem? (i := 20) rfl)) (jWr_1 _ (List.mem_of_getElem? (i := 5) rfl)) (jWr_54 _ (List.mem_of_getElem? (i := 21) rfl))) rfl rfl rfl (by decide +kernel) ⟨by rw [← hR]; exact Nat.le_of_ble_eq_true rfl, by rw [← hR]; exact Nat.le_of_ble_eq_true rfl⟩) ⟨fun a U g mk q => by obtain ⟨q0, q1, q2, qK, q10, q11, q12⟩ := q; exact ⟨q0, q1, q2, jG.calling g mk a qK, q10, q11, q12⟩, hh_16.recv (C := RX14) (T := TX14) (N := 74) hB16 rfl (by decide) hg_r0 hK, fun U hU hW => ⟨rfl, hU, hh_16.2.1, hG.step hW hU hh_16.1, hg_r0, (hh_16.2.2.1.sub (L1 := [(r0, 16, 6, .int framed_17)]) [0] rfl), by first | omega | (refine ⟨?_, ?_⟩ <;> (first | omega | rfl | assumption | decide | exact Or.inl rfl | exact Or.inr rfl | (simp only; omega)))⟩⟩ rfl rfl hl.1 rfl (lv_room (Nat.le_of_ble_eq_true rfl)) dX14_statementOf_150 ⟨Nat.zero_le _, Nat.zero_le _⟩) hh_16.1 (fun q _ h => h) (fun q h => h) (fun u_13 t_13 H_13 locs_13 ht_13 hvm_13 hr_14 hb_13 hz_13 hk_13 hS_13 => ?_)
                  obtain ⟨qf_13, rfl⟩ : ∃ z, z = u_13 := ⟨_, rfl⟩
                  rw [ht_13] at hb_13
                  obtain ⟨hb_131, hb_132, hb_133, hb_134, hb_135⟩ := hb_13
                  have hh_13 : jSt (dC, dI) B base G0 G0 EX14_statementOf s.heap 0 0 [(r0, 16, 6, .int qf_13), (r0, 16, 58, .ref kr), (kr, 15, 15, .int pf), (kr, 15, 11, .int py), (kr, 15, 17, .ref zf), (kr, 15, 0, .ref zs), (kr, 15, 1, .ref zn), (kr, 15, 2, .ref za), (kr, 15, 3, .ref zb), (kr, 15, 4, .ref zc), (kr, 15, 14, .ref zy)] [(zf, 160, 16, ca 1, ff), (zs, 150, 120000, ca 1, C.s), (zn, 151, 120000, ca 1, C.n), (za, 152, 120000, ca 1, C.a), (zb, 153, 120000, ca 1, C.b), (zc, 154, 120000, ca 1, C.c), (zy, 165, 16, ca 1, C.y)] [] H_13 locs_13 := ((hh_16.call hb_131 hb_132 hb_133 hb_134 hS_13 rfl (L1 := [(r0, 16, 58, .ref kr), (kr, 15, 15, .int pf), (kr, 15, 11, .int py), (kr, 15, 17, .ref zf), (kr, 15, 0, .ref zs), (kr, 15, 1, .ref zn), (kr, 15, 2, .ref za), (kr, 15, 3, .ref zb), (kr, 15, 4, .ref zc), (kr, 15, 14, .ref zy)]) [1, 2, 3, 4, 5, 6, 7, 8, 9, 10] rfl rfl (M1 := [(zf, 160, 16, ca 1, ff), (zs, 150, 120000, ca 1, C.s), (zn, 151, 120000, ca 1, C.n), (za, 152, 120000, ca 1, C.a), (zb, 153, 120000, ca 1, C.b), (zc, 154, 120000, ca 1, C.c), (zy, 165, 16, ca 1, C.y)]) [0, 1, 2, 3, 4, 5, 6] rfl rfl (I1 := []) [] rfl rfl).more hb_135)
                  clear hh_16 ht_13 hvm_13 hz_13 hk_13 hS_13 hb_131 hb_132 hb_133 hb_134 hb_135
                  obtain ⟨hr_14_0, hr_14_1⟩ := hr_14
                  refine lv_goto (tgt := 163) hx hb dX14_statementOf_153 (by decide) ?_
                  rw [hQ]
                  exact W.vret hx hb hr (fun t ht hW => ⟨⟨(), rfl, trivial, hh_13.rt (M1 := []) [] rfl ht⟩, by rw [ht]; try exact hh_13.1.1, fun q h9 hq => by rw [ht]; try exact hh_13.1.2.1 q h9 hq⟩) hh_13.1.2.2 dX14_statementOf_163
              · skip
                have c_5' : v4_1.toInt ≥ 0 := jb_lt_n (rfl) ((by decide)) c_5
                refine lv_aload_n hx hb dX14_statementOf_101 rfl (lv_at hl 0 rfl) ?_
                refine j7_read hx hb hown hK (C := RX14) (T := TX14) (N := 74) rfl hly_16_58 hlk_122 (hh_3.at 0 rfl) dX14_statementOf_102 ?_
                refine lv_iconst (v := 0) hx hb dX14_statementOf_105 (by decide) ?_
                refine j7_putN hx hb hown hK hh_3 hB hAp hB15 (C := RX13) (T := TX13) (N := 50) rfl (by decide) hg_kr (i := 46) (by decide) hly_15_46 rfl hlk_634 rfl (ty := .int) (v := .int 0) (by decide +kernel) rfl rfl (⟨_, rfl, by omega, by omega⟩) rfl (L1 := [(r0, 16, 58, .ref kr), (kr, 15, 15, .int pf), (kr, 15, 11, .int py), (kr, 15, 17, .ref zf), (kr, 15, 0, .ref zs), (kr, 15, 1, .ref zn), (kr, 15, 2, .ref za), (kr, 15, 3, .ref zb), (kr, 15, 4, .ref zc), (kr, 15, 14, .ref zy)]) [0, 1, 2, 3, 4, 5, 6, 7, 8, 9] rfl rfl rfl dX14_statementOf_106 (fun H_18 locs_18 hh_18 => ?_)
                clear hh_3
                refine lv_aload_n hx hb dX14_statementOf_109 rfl (lv_at hl 0 rfl) ?_
                refine j7_read hx hb hown hK (C := RX14) (T := TX14) (N := 74) rfl hly_16_58 hlk_122 (hh_18.at 1 rfl) dX14_statementOf_110 ?_
                refine lv_aload_n hx hb dX14_statementOf_113 rfl (lv_at hl 0 rfl) ?_
                refine j7_read hx hb hown hK (C := RX14) (T := TX14) (N := 74) rfl hly_16_58 hlk_122 (hh_18.at 1 rfl) dX14_statementOf_114 ?_
                refine j7_readN hx hb hown hK (C := RX13) (T := TX13) (N := 50) rfl hly_15_17 hlk_677 (hh_18.at 4 rfl) dX14_statementOf_117 ?_
                refine lv_iload hx hb dX14_statementOf_120 (lv_at hl 4 rfl) ?_
                refine j7_ialdM hx hb hK hh_18 hB160 1 rfl (by decide) hg_zf (x := v4_1.toInt) (rfl) (by omega) (j := 0) rfl dX14_statementOf_122 (fun z_19 ez_19 (hz_19 : 0 ≤ z_19.toInt ∧ z_19.toInt ≤ 119999) => ?_)
                have hqz_19 : z_19.toInt = jSo ff (v4_1.toInt) := by unfold jSo; rw [ez_19]
                refine va_callv (A0 := jA base) (H0 := s.heap) (va_runV (As := [.int z_19]) (rest := []) ⟨hx, hb, hml, hown, hts⟩ (uX13_printFormula l dC dI ca base B hB hAp hB15 hB101 hB150 hB151 hB152 hB153 hB154 hB155 hB156 hB163 hB164 hB165 hB166 G0 H_18 kr z_19 zs zn za zb zc zy C) (cwV 1 hts (jgV (jWr_72 _ (List.mem_of_getElem? (i := 17) rfl)) (jWr_71 _ (List.mem_of_getElem? (i := 1) rfl)) (jWr_71 _ (List.mem_of_getElem? (i := 2) rfl)) (jWr_12 _ (List.mem_of_getElem? (i := 12) rfl)) (jWr_71 _ (List.mem_of_getElem? (i := 3) rfl))) rfl rfl rfl (by decide +kernel) ⟨by rw [← hR]; exact Nat.le_of_ble_eq_true rfl, by rw [← hR]; exact Nat.le_of_ble_eq_true rfl⟩) ⟨fun a U g mk q => by obtain ⟨q0, q1, q2, qK, q10, q11, q12, q13, q14, q15, q16, q17, q18, q19⟩ := q; exact ⟨q0, q1, q2, jG.calling g mk a qK, q10, q11, q12, q13, q14, q15, q16, q17, q18, q19⟩, hh_18.recv (C := RX13) (T := TX13) (N := 50) hB15 rfl (by decide) hg_kr hK, fun U hU hW => ⟨rfl, hU, hh_18.2.1, hG.step hW hU hh_18.1, hg_kr, hg_zs, hg_zn, hg_za, hg_zb, hg_zc, hg_zy, (hh_18.2.2.1.sub (L1 := [(kr, 15, 0, .ref zs), (kr, 15, 1, .ref zn), (kr, 15, 2, .ref za), (kr, 15, 3, .ref zb), (kr, 15, 4, .ref zc), (kr, 15, 14, .ref zy)]) [5, 6, 7, 8, 9, 10] rfl), (hh_18.2.2.2.2.2.2.2.1.sub (L1 := [(zs, 150, 120000, ca 1, C.s), (zn, 151, 120000, ca 1, C.n), (za, 152, 120000, ca 1, C.a), (zb, 153, 120000, ca 1, C.b), (zc, 154, 120000, ca 1, C.c), (zy, 165, 16, ca 1, C.y)]) [1, 2, 3, 4, 5, 6] rfl), by first | assumption | (rw [hqz_19]; exact (hp0 _ (by omega) (by omega)).1.wide (by omega) (by omega)) | omega⟩⟩ rfl rfl hl.1 rfl (lv_room (Nat.le_of_ble_eq_true rfl)) dX14_statementOf_123 ⟨Nat.zero_le _, Nat.zero_le _⟩) hh_18.1 (fun q _ h => h) (fun q h => h) (fun u_20 t_20 H_20 locs_20 ht_20 hvm_20 hr_21 hb_20 hz_20 hk_20 hS_20 => ?_)
                rw [ht_20] at hb_20
                obtain ⟨hb_201, hb_202, hb_203, hb_204, hb_205⟩ := hb_20
                have hh_20 : jSt (dC, dI) B base G0 G0 EX14_statementOf s.heap 0 0 [(r0, 16, 58, .ref kr), (kr, 15, 15, .int pf), (kr, 15, 11, .int py), (kr, 15, 17, .ref zf), (kr, 15, 0, .ref zs), (kr, 15, 1, .ref zn), (kr, 15, 2, .ref za), (kr, 15, 3, .ref zb), (kr, 15, 4, .ref zc), (kr, 15, 14, .ref zy)] [(zf, 160, 16, ca 1, ff), (zs, 150, 120000, ca 1, C.s), (zn, 151, 120000, ca 1, C.n), (za, 152, 120000, ca 1, C.a), (zb, 153, 120000, ca 1, C.b), (zc, 154, 120000, ca 1, C.c), (zy, 165, 16, ca 1, C.y)] [] H_20 locs_20 := ((hh_18.call hb_201 hb_202 hb_203 hb_204 hS_20 rfl (L1 := [(r0, 16, 58, .ref kr), (kr, 15, 15, .int pf), (kr, 15, 11, .int py), (kr, 15, 17, .ref zf), (kr, 15, 0, .ref zs), (kr, 15, 1, .ref zn), (kr, 15, 2, .ref za), (kr, 15, 3, .ref zb), (kr, 15, 4, .ref zc), (kr, 15, 14, .ref zy)]) [1, 2, 3, 4, 5, 6, 7, 8, 9, 10] rfl rfl (M1 := [(zf, 160, 16, ca 1, ff), (zs, 150, 120000, ca 1, C.s), (zn, 151, 120000, ca 1, C.n), (za, 152, 120000, ca 1, C.a), (zb, 153, 120000, ca 1, C.b), (zc, 154, 120000, ca 1, C.c), (zy, 165, 16, ca 1, C.y)]) [0, 1, 2, 3, 4, 5, 6] rfl rfl (I1 := []) [] rfl rfl).more hb_205)
                clear hh_18 ht_20 hvm_20 hz_20 hk_20 hS_20 hb_201 hb_202 hb_203 hb_204 hb_205
                refine lv_aload_n hx hb dX14_statementOf_126 rfl (lv_at hl 0 rfl) ?_
                refine lv_iconst (v := 0) hx hb dX14_statementOf_127 (by decide) ?_
                refine va_callv (A0 := jA base) (H0 := s.heap) (va_runV (As := [.int 0]) (rest := []) ⟨hx, hb, hml, hown, hts⟩ (uX14_putLine l dC dI ca base B hB hAp hB15 hB16 hB101 G0 H_20 r0 0) (cwV 1 hts (jgV (jWr_70 _ (List.mem_of_getElem? (i := 11) rfl)) (jWr_70 _ (List.mem_of_getElem? (i := 12) rfl)) (jWr_70 _ (List.mem_of_getElem? (i := 13) rfl)) (jWr_1 _ (List.mem_of_getElem? (i := 5) rfl)) (jWr_70 _ (List.mem_of_getElem? (i := 14) rfl))) rfl rfl rfl (by decide +kernel) ⟨by rw [← hR]; exact Nat.le_of_ble_eq_true rfl, by rw [← hR]; exact Nat.le_of_ble_eq_true rfl⟩) ⟨fun a U g mk q => by obtain ⟨q0, q1, q2, qK, q10, q11, q12⟩ := q; exact ⟨q0, q1, q2, jG.calling g mk a qK, q10, q11, q12⟩, hh_20.recv (C := RX14) (T := TX14) (N := 74) hB16 rfl (by decide) hg_r0 hK, fun U hU hW => ⟨rfl, hU, hh_20.2.1, hG.step hW hU hh_20.1, hg_r0, jP.nil, by first | omega | (refine ⟨?_, ?_⟩ <;> (first | omega | rfl | assumption | decide | exact Or.inl rfl | exact Or.inr rfl | (simp only; omega)))⟩⟩ rfl rfl hl.1 rfl (lv_room (Nat.le_of_ble_eq_true rfl)) dX14_statementOf_128 ⟨Nat.zero_le _, Nat.zero_le _⟩) hh_20.1 (fun q _ h => h) (fun q h => h) (fun u_22 t_22 H_22 locs_22 ht_22 hvm_22 hr_23 hb_22 hz_22 hk_22 hS_22 => ?_)
                rw [ht_22] at hb_22
                obtain ⟨hb_221, hb_222, hb_223, hb_224, hb_225⟩ := hb_22
                have hh_22 : jSt (dC, dI) B base G0 G0 EX14_statementOf s.heap 0 0 [(r0, 16, 58, .ref kr), (kr, 15, 15, .int pf), (kr, 15, 11, .int py), (kr, 15, 17, .ref zf), (kr, 15, 0, .ref zs), (kr, 15, 1, .ref zn), (kr, 15, 2, .ref za), (kr, 15, 3, .ref zb), (kr, 15, 4, .ref zc), (kr, 15, 14, .ref zy)] [(zf, 160, 16, ca 1, ff), (zs, 150, 120000, ca 1, C.s), (zn, 151, 120000, ca 1, C.n), (za, 152, 120000, ca 1, C.a), (zb, 153, 120000, ca 1, C.b), (zc, 154, 120000, ca 1, C.c), (zy, 165, 16, ca 1, C.y)] [] H_22 locs_22 := ((hh_20.call hb_221 hb_222 hb_223 hb_224 hS_22 rfl (L1 := [(r0, 16, 58, .ref kr), (kr, 15, 15, .int pf), (kr, 15, 11, .int py), (kr, 15, 17, .ref zf), (kr, 15, 0, .ref zs), (kr, 15, 1, .ref zn), (kr, 15, 2, .ref za), (kr, 15, 3, .ref zb), (kr, 15, 4, .ref zc), (kr, 15, 14, .ref zy)]) [0, 1, 2, 3, 4, 5, 6, 7, 8, 9] rfl rfl (M1 := [(zf, 160, 16, ca 1, ff), (zs, 150, 120000, ca 1, C.s), (zn, 151, 120000, ca 1, C.n), (za, 152, 120000, ca 1, C.a), (zb, 153, 120000, ca 1, C.b), (zc, 154, 120000, ca 1, C.c), (zy, 165, 16, ca 1, C.y)]) [0, 1, 2, 3, 4, 5, 6] rfl rfl (I1 := []) [] rfl rfl).more hb_225)
                clear hh_20 ht_22 hvm_22 hz_22 hk_22 hS_22 hb_221 hb_222 hb_223 hb_224 hb_225
                refine lv_goto (tgt := 163) hx hb dX14_statementOf_131 (by decide) ?_
                rw [hQ]
                exact W.vret hx hb hr (fun t ht hW => ⟨⟨(), rfl, trivial, hh_22.rt (M1 := []) [] rfl ht⟩, by rw [ht]; try exact hh_22.1.1, fun q h9 hq => by rw [ht]; try exact hh_22.1.2.1 q h9 hq⟩) hh_22.1.2.2 dX14_statementOf_163
            · skip
              have c_4' : v6_3.toInt < py.toInt := jb_ge_n (rfl) (rfl) c_4
              refine lv_aload_n hx hb dX14_statementOf_66 rfl (lv_at hl 0 rfl) ?_
              refine lv_aload_n hx hb dX14_statementOf_67 rfl (lv_at hl 0 rfl) ?_
              refine j7_read hx hb hown hK (C := RX14) (T := TX14) (N := 74) rfl hly_16_58 hlk_122 (hh_3.at 0 rfl) dX14_statementOf_68 ?_
              obtain ⟨v_24, hv_24, hh_25⟩ := hh_3.pin (C := RX13) (T := TX13) (N := 50) hB15 rfl (by decide) hg_kr (i := 12) (by decide) rfl
              clear hh_3
              obtain ⟨symbol_26, rfl, hg_symbol_26⟩ := hv_24
              refine j7_readN hx hb hown hK (C := RX13) (T := TX13) (N := 50) rfl hly_15_12 hlk_674 (hh_25.at 0 rfl) dX14_statementOf_71 ?_
              refine lv_iload hx hb dX14_statementOf_74 (lv_at hl 6 rfl) ?_
              refine j7_iald hx hb hK hh_25 hB163 1 rfl (by decide) hg_symbol_26 (x := v6_3.toInt) (rfl) (by omega) dX14_statementOf_76 (fun z_27 (hz_27 : 0 ≤ z_27.toInt ∧ z_27.toInt ≤ 1599) => ?_)
              refine lv_aload_n hx hb dX14_statementOf_77 rfl (lv_at hl 1 rfl) ?_
              refine lv_iload_n hx hb dX14_statementOf_78 rfl (lv_at hl 2 rfl) ?_
              refine lv_iload_n hx hb dX14_statementOf_79 rfl (lv_at hl 3 rfl) ?_
              refine va_calli (A0 := jA base) (H0 := s.heap) (va_runV (As := [.int z_27, .ref r1, .int a2, .int a3]) (rest := []) ⟨hx, hb, hml, hown, hts⟩ (uX14_isNamed l dC dI ca base B hB hAp hB15 hB16 hB101 hB155 hB156 hB166 G0 H_3 r0 z_27 r1 a2 a3 n1) (cwV 4 hts (jgV (jWr_72 _ (List.mem_of_getElem? (i := 13) rfl)) (jWr_72 _ (List.mem_of_getElem? (i := 14) rfl)) (jWr_72 _ (List.mem_of_getElem? (i := 15) rfl)) (jWr_1 _ (List.mem_of_getElem? (i := 5) rfl)) (jWr_72 _ (List.mem_of_getElem? (i := 16) rfl))) rfl rfl rfl (by decide +kernel) ⟨by rw [← hR]; exact Nat.le_of_ble_eq_true rfl, by rw [← hR]; exact Nat.le_of_ble_eq_true rfl⟩) ⟨fun a U g mk q => by obtain ⟨q0, q1, q2, qK, q10, q11, q12, q13⟩ := q; exact ⟨q0, q1, q2, jG.calling g mk a qK, q10, q11, q12, q13⟩, hh_25.recv (C := RX14) (T := TX14) (N := 74) hB16 rfl (by decide) hg_r0 hK, fun U hU hW => ⟨rfl, hU, hh_25.2.1, hG.step hW hU hh_25.1, hg_r1, hg_r0, jP.nil, by first | omega | (refine ⟨?_, ?_, ?_, ?_, ?_⟩ <;> (first | omega | rfl | assumption | decide | exact Or.inl rfl | exact Or.inr rfl | (simp only; omega)))⟩⟩ rfl rfl hl.1 rfl (lv_room (Nat.le_of_ble_eq_true rfl)) dX14_statementOf_80 ⟨Nat.zero_le _, Nat.zero_le _⟩) hh_25.1 (fun q _ h => h) (fun q h => h) (fun r_29 u_28 t_28 H_28 locs_28 ht_28 hvm_28 hr_29 hb_28 hz_28 hk_28 hS_28 => ?_)
              rw [ht_28] at hb_28
              obtain ⟨hb_281, hb_282, hb_283, hb_284, hb_285⟩ := hb_28
              have hh_28 : jSt (dC, dI) B base G0 G0 EX14_statementOf s.heap 0 0 [(kr, 15, 12, .ref symbol_26), (r0, 16, 58, .ref kr), (kr, 15, 15, .int pf), (kr, 15, 11, .int py), (kr, 15, 17, .ref zf), (kr, 15, 0, .ref zs), (kr, 15, 1, .ref zn), (kr, 15, 2, .ref za), (kr, 15, 3, .ref zb), (kr, 15, 4, .ref zc), (kr, 15, 14, .ref zy)] [(zf, 160, 16, ca 1, ff), (zs, 150, 120000, ca 1, C.s), (zn, 151, 120000, ca 1, C.n), (za, 152, 120000, ca 1, C.a), (zb, 153, 120000, ca 1, C.b), (zc, 154, 120000, ca 1, C.c), (zy, 165, 16, ca 1, C.y)] [] H_28 locs_28 := ((hh_25.call hb_281 hb_282 hb_283 hb_284 hS_28 rfl (L1 := [(kr, 15, 12, .ref symbol_26), (r0, 16, 58, .ref kr), (kr, 15, 15, .int pf), (kr, 15, 11, .int py), (kr, 15, 17, .ref zf), (kr, 15, 0, .ref zs), (kr, 15, 1, .ref zn), (kr, 15, 2, .ref za), (kr, 15, 3, .ref zb), (kr, 15, 4, .ref zc), (kr, 15, 14, .ref zy)]) [0, 1, 2, 3, 4, 5, 6, 7, 8, 9, 10] rfl rfl (M1 := [(zf, 160, 16, ca 1, ff), (zs, 150, 120000, ca 1, C.s), (zn, 151, 120000, ca 1, C.n), (za, 152, 120000, ca 1, C.a), (zb, 153, 120000, ca 1, C.b), (zc, 154, 120000, ca 1, C.c), (zy, 165, 16, ca 1, C.y)]) [0, 1, 2, 3, 4, 5, 6] rfl rfl (I1 := []) [] rfl rfl).more hb_285)
              clear hh_25 ht_28 hvm_28 hz_28 hk_28 hS_28 hb_281 hb_282 hb_283 hb_284 hb_285
              obtain ⟨hr_29b, hr_29p⟩ := hr_29
              have hr_29' := jb_01 hr_29b
              refine lv_if_eq (tgt := 90) hx hb dX14_statementOf_83 (by decide) (fun c_30 => ?_) (fun c_30 => ?_)
              · skip
                have c_30' : r_29.toInt = 0 := jb_eq (rfl) ((by decide)) c_30
                obtain ⟨z_31, ez_31⟩ : ∃ y : Int32, y = v6_3 + 1 := ⟨_, rfl⟩
                refine lv_iinc (v := z_31) (lv' := [(6, .int z_31), (0, .ref r0), (1, .ref r1), (2, .int a2), (3, .int a3), (4, .int v4_1), (5, .int v5_3)]) hx hb dX14_statementOf_90 hl (k := 6) rfl (by rw [ez_31]; rfl) (by decide) rfl (fun ls hl => ?_)
                have hz_31 : z_31.toInt = v6_3.toInt + 1 := by rw [ez_31]; exact jb_iadd2 (rfl) (by decide) (by omega)
                refine lv_goto (tgt := 54) hx hb dX14_statementOf_93 (by decide) ?_
                exact L54 v5_3 z_31 _ _ (hh_28.sub (L1 := [(r0, 16, 58, .ref kr), (kr, 15, 15, .int pf), (kr, 15, 11, .int py), (kr, 15, 17, .ref zf), (kr, 15, 0, .ref zs), (kr, 15, 1, .ref zn), (kr, 15, 2, .ref za), (kr, 15, 3, .ref zb), (kr, 15, 4, .ref zc), (kr, 15, 14, .ref zy)]) [1, 2, 3, 4, 5, 6, 7, 8, 9, 10] rfl (M1 := [(zf, 160, 16, ca 1, ff), (zs, 150, 120000, ca 1, C.s), (zn, 151, 120000, ca 1, C.n), (za, 152, 120000, ca 1, C.a), (zb, 153, 120000, ca 1, C.b), (zc, 154, 120000, ca 1, C.c), (zy, 165, 16, ca 1, C.y)]) [0, 1, 2, 3, 4, 5, 6] rfl (I1 := []) [] rfl) (by first | omega | (refine ⟨?_, ?_, ?_, ?_⟩ <;> (first | omega | rfl | assumption | decide | exact Or.inl rfl | exact Or.inr rfl | (simp only; omega)))) (by omega) _ (lv_sub hl [1, 2, 3, 4, 5, 6, 0] rfl)
              · skip
                have c_30' : r_29.toInt ≠ 0 := jb_eq_n (rfl) ((by decide)) c_30
                refine lv_iload hx hb dX14_statementOf_86 (lv_at hl 6 rfl) ?_
                refine lv_istore (lv' := [(5, .int v6_3), (0, .ref r0), (1, .ref r1), (2, .int a2), (3, .int a3), (4, .int v4_1), (6, .int v6_3)]) hx hb dX14_statementOf_88 hl (by decide) rfl (fun ls hl => ?_)
                obtain ⟨z_32, ez_32⟩ : ∃ y : Int32, y = v6_3 + 1 := ⟨_, rfl⟩
                refine lv_iinc (v := z_32) (lv' := [(6, .int z_32), (5, .int v6_3), (0, .ref r0), (1, .ref r1), (2, .int a2), (3, .int a3), (4, .int v4_1)]) hx hb dX14_statementOf_90 hl (k := 6) rfl (by rw [ez_32]; rfl) (by decide) rfl (fun ls hl => ?_)
                have hz_32 : z_32.toInt = v6_3.toInt + 1 := by rw [ez_32]; exact jb_iadd2 (rfl) (by decide) (by omega)
                refine lv_goto (tgt := 54) hx hb dX14_statementOf_93 (by decide) ?_
                exact L54 v6_3 z_32 _ _ (hh_28.sub (L1 := [(r0, 16, 58, .ref kr), (kr, 15, 15, .int pf), (kr, 15, 11, .int py), (kr, 15, 17, .ref zf), (kr, 15, 0, .ref zs), (kr, 15, 1, .ref zn), (kr, 15, 2, .ref za), (kr, 15, 3, .ref zb), (kr, 15, 4, .ref zc), (kr, 15, 14, .ref zy)]) [1, 2, 3, 4, 5, 6, 7, 8, 9, 10] rfl (M1 := [(zf, 160, 16, ca 1, ff), (zs, 150, 120000, ca 1, C.s), (zn, 151, 120000, ca 1, C.n), (za, 152, 120000, ca 1, C.a), (zb, 153, 120000, ca 1, C.b), (zc, 154, 120000, ca 1, C.c), (zy, 165, 16, ca 1, C.y)]) [0, 1, 2, 3, 4, 5, 6] rfl (I1 := []) [] rfl) (by first | omega | (refine ⟨?_, ?_, ?_, ?_⟩ <;> (first | omega | rfl | assumption | decide | exact Or.inl rfl | exact Or.inr rfl | (simp only; omega)))) (by omega) _ (lv_sub hl [2, 3, 4, 5, 6, 1, 0] rfl)
        exact L54 (py.toInt - (0 : Int32).toInt : Int).toNat.succ (-1) 0 _ _ hh_1 (by first | omega | (refine ⟨?_, ?_, ?_, ?_⟩ <;> (first | omega | rfl | assumption | decide | exact Or.inl rfl | exact Or.inr rfl | (simp only; omega)))) (by omega) _ (lv_sub hl [1, 2, 3, 4, 5, 6, 0] rfl)
      · skip
        have c_2' : v6_1.toInt < pf.toInt := jb_ge_n (rfl) (rfl) c_2
        refine lv_aload_n hx hb dX14_statementOf_21 rfl (lv_at hl 0 rfl) ?_
        refine lv_aload_n hx hb dX14_statementOf_22 rfl (lv_at hl 0 rfl) ?_
        refine j7_read hx hb hown hK (C := RX14) (T := TX14) (N := 74) rfl hly_16_58 hlk_122 (hh_1.at 0 rfl) dX14_statementOf_23 ?_
        obtain ⟨v_33, hv_33, hh_34⟩ := hh_1.pin (C := RX13) (T := TX13) (N := 50) hB15 rfl (by decide) hg_kr (i := 16) (by decide) rfl
        clear hh_1
        obtain ⟨factName_35, rfl, hg_factName_35⟩ := hv_33
        refine j7_readN hx hb hown hK (C := RX13) (T := TX13) (N := 50) rfl hly_15_16 hlk_664 (hh_34.at 0 rfl) dX14_statementOf_26 ?_
        refine lv_iload hx hb dX14_statementOf_29 (lv_at hl 6 rfl) ?_
        refine j7_iald hx hb hK hh_34 hB163 1 rfl (by decide) hg_factName_35 (x := v6_1.toInt) (rfl) (by omega) dX14_statementOf_31 (fun z_36 (hz_36 : 0 ≤ z_36.toInt ∧ z_36.toInt ≤ 1599) => ?_)
        refine lv_aload_n hx hb dX14_statementOf_32 rfl (lv_at hl 1 rfl) ?_
        refine lv_iload_n hx hb dX14_statementOf_33 rfl (lv_at hl 2 rfl) ?_
        refine lv_iload_n hx hb dX14_statementOf_34 rfl (lv_at hl 3 rfl) ?_
        refine va_calli (A0 := jA base) (H0 := s.heap) (va_runV (As := [.int z_36, .ref r1, .int a2, .int a3]) (rest := []) ⟨hx, hb, hml, hown, hts⟩ (uX14_isNamed l dC dI ca base B hB hAp hB15 hB16 hB101 hB155 hB156 hB166 G0 H_1 r0 z_36 r1 a2 a3 n1) (cwV 4 hts (jgV (jWr_72 _ (List.mem_of_getElem? (i := 13) rfl)) (jWr_72 _ (List.mem_of_getElem? (i := 14) rfl)) (jWr_72 _ (List.mem_of_getElem? (i := 15) rfl)) (jWr_1 _ (List.mem_of_getElem? (i := 5) rfl)) (jWr_72 _ (List.mem_of_getElem? (i := 16) rfl))) rfl rfl rfl (by decide +kernel) ⟨by rw [← hR]; exact Nat.le_of_ble_eq_true rfl, by rw [← hR]; exact Nat.le_of_ble_eq_true rfl⟩) ⟨fun a U g mk q => by obtain ⟨q0, q1, q2, qK, q10, q11, q12, q13⟩ := q; exact ⟨q0, q1, q2, jG.calling g mk a qK, q10, q11, q12, q13⟩, hh_34.recv (C := RX14) (T := TX14) (N := 74) hB16 rfl (by decide) hg_r0 hK, fun U hU hW => ⟨rfl, hU, hh_34.2.1, hG.step hW hU hh_34.1, hg_r1, hg_r0, jP.nil, by first | omega | (refine ⟨?_, ?_, ?_, ?_, ?_⟩ <;> (first | omega | rfl | assumption | decide | exact Or.inl rfl | exact Or.inr rfl | (simp only; omega)))⟩⟩ rfl rfl hl.1 rfl (lv_room (Nat.le_of_ble_eq_true rfl)) dX14_statementOf_35 ⟨Nat.zero_le _, Nat.zero_le _⟩) hh_34.1 (fun q _ h => h) (fun q h => h) (fun r_38 u_37 t_37 H_37 locs_37 ht_37 hvm_37 hr_38 hb_37 hz_37 hk_37 hS_37 => ?_)
        rw [ht_37] at hb_37
        obtain ⟨hb_371, hb_372, hb_373, hb_374, hb_375⟩ := hb_37
        have hh_37 : jSt (dC, dI) B base G0 G0 EX14_statementOf s.heap 0 0 [(kr, 15, 16, .ref factName_35), (r0, 16, 58, .ref kr), (kr, 15, 15, .int pf), (kr, 15, 11, .int py), (kr, 15, 17, .ref zf), (kr, 15, 0, .ref zs), (kr, 15, 1, .ref zn), (kr, 15, 2, .ref za), (kr, 15, 3, .ref zb), (kr, 15, 4, .ref zc), (kr, 15, 14, .ref zy)] [(zf, 160, 16, ca 1, ff), (zs, 150, 120000, ca 1, C.s), (zn, 151, 120000, ca 1, C.n), (za, 152, 120000, ca 1, C.a), (zb, 153, 120000, ca 1, C.b), (zc, 154, 120000, ca 1, C.c), (zy, 165, 16, ca 1, C.y)] [] H_37 locs_37 := ((hh_34.call hb_371 hb_372 hb_373 hb_374 hS_37 rfl (L1 := [(kr, 15, 16, .ref factName_35), (r0, 16, 58, .ref kr), (kr, 15, 15, .int pf), (kr, 15, 11, .int py), (kr, 15, 17, .ref zf), (kr, 15, 0, .ref zs), (kr, 15, 1, .ref zn), (kr, 15, 2, .ref za), (kr, 15, 3, .ref zb), (kr, 15, 4, .ref zc), (kr, 15, 14, .ref zy)]) [0, 1, 2, 3, 4, 5, 6, 7, 8, 9, 10] rfl rfl (M1 := [(zf, 160, 16, ca 1, ff), (zs, 150, 120000, ca 1, C.s), (zn, 151, 120000, ca 1, C.n), (za, 152, 120000, ca 1, C.a), (zb, 153, 120000, ca 1, C.b), (zc, 154, 120000, ca 1, C.c), (zy, 165, 16, ca 1, C.y)]) [0, 1, 2, 3, 4, 5, 6] rfl rfl (I1 := []) [] rfl rfl).more hb_375)
        clear hh_34 ht_37 hvm_37 hz_37 hk_37 hS_37 hb_371 hb_372 hb_373 hb_374 hb_375
        obtain ⟨hr_38b, hr_38p⟩ := hr_38
        have hr_38' := jb_01 hr_38b
        refine lv_if_eq (tgt := 45) hx hb dX14_statementOf_38 (by decide) (fun c_39 => ?_) (fun c_39 => ?_)
        · skip
          have c_39' : r_38.toInt = 0 := jb_eq (rfl) ((by decide)) c_39
          obtain ⟨z_40, ez_40⟩ : ∃ y : Int32, y = v6_1 + 1 := ⟨_, rfl⟩
          refine lv_iinc (v := z_40) (lv' := [(6, .int z_40), (0, .ref r0), (1, .ref r1), (2, .int a2), (3, .int a3), (4, .int v4_1), (5, .int (-1))]) hx hb dX14_statementOf_45 hl (k := 6) rfl (by rw [ez_40]; rfl) (by decide) rfl (fun ls hl => ?_)
          have hz_40 : z_40.toInt = v6_1.toInt + 1 := by rw [ez_40]; exact jb_iadd2 (rfl) (by decide) (by omega)
          refine lv_goto (tgt := 9) hx hb dX14_statementOf_48 (by decide) ?_
          exact L9 v4_1 z_40 _ _ (hh_37.sub (L1 := [(r0, 16, 58, .ref kr), (kr, 15, 15, .int pf), (kr, 15, 11, .int py), (kr, 15, 17, .ref zf), (kr, 15, 0, .ref zs), (kr, 15, 1, .ref zn), (kr, 15, 2, .ref za), (kr, 15, 3, .ref zb), (kr, 15, 4, .ref zc), (kr, 15, 14, .ref zy)]) [1, 2, 3, 4, 5, 6, 7, 8, 9, 10] rfl (M1 := [(zf, 160, 16, ca 1, ff), (zs, 150, 120000, ca 1, C.s), (zn, 151, 120000, ca 1, C.n), (za, 152, 120000, ca 1, C.a), (zb, 153, 120000, ca 1, C.b), (zc, 154, 120000, ca 1, C.c), (zy, 165, 16, ca 1, C.y)]) [0, 1, 2, 3, 4, 5, 6] rfl (I1 := []) [] rfl) (by first | omega | (refine ⟨?_, ?_, ?_, ?_⟩ <;> (first | omega | rfl | assumption | decide | exact Or.inl rfl | exact Or.inr rfl | (simp only; omega)))) (by omega) _ (lv_sub hl [1, 2, 3, 4, 5, 6, 0] rfl)
        · skip
          have c_39' : r_38.toInt ≠ 0 := jb_eq_n (rfl) ((by decide)) c_39
          refine lv_iload hx hb dX14_statementOf_41 (lv_at hl 6 rfl) ?_
          refine lv_istore (lv' := [(4, .int v6_1), (0, .ref r0), (1, .ref r1), (2, .int a2), (3, .int a3), (5, .int (-1)), (6, .int v6_1)]) hx hb dX14_statementOf_43 hl (by decide) rfl (fun ls hl => ?_)
          obtain ⟨z_41, ez_41⟩ : ∃ y : Int32, y = v6_1 + 1 := ⟨_, rfl⟩
          refine lv_iinc (v := z_41) (lv' := [(6, .int z_41), (4, .int v6_1), (0, .ref r0), (1, .ref r1), (2, .int a2), (3, .int a3), (5, .int (-1))]) hx hb dX14_statementOf_45 hl (k := 6) rfl (by rw [ez_41]; rfl) (by decide) rfl (fun ls hl => ?_)
          have hz_41 : z_41.toInt = v6_1.toInt + 1 := by rw [ez_41]; exact jb_iadd2 (rfl) (by decide) (by omega)
          refine lv_goto (tgt := 9) hx hb dX14_statementOf_48 (by decide) ?_
          exact L9 v6_1 z_41 _ _ (hh_37.sub (L1 := [(r0, 16, 58, .ref kr), (kr, 15, 15, .int pf), (kr, 15, 11, .int py), (kr, 15, 17, .ref zf), (kr, 15, 0, .ref zs), (kr, 15, 1, .ref zn), (kr, 15, 2, .ref za), (kr, 15, 3, .ref zb), (kr, 15, 4, .ref zc), (kr, 15, 14, .ref zy)]) [1, 2, 3, 4, 5, 6, 7, 8, 9, 10] rfl (M1 := [(zf, 160, 16, ca 1, ff), (zs, 150, 120000, ca 1, C.s), (zn, 151, 120000, ca 1, C.n), (za, 152, 120000, ca 1, C.a), (zb, 153, 120000, ca 1, C.b), (zc, 154, 120000, ca 1, C.c), (zy, 165, 16, ca 1, C.y)]) [0, 1, 2, 3, 4, 5, 6] rfl (I1 := []) [] rfl) (by first | omega | (refine ⟨?_, ?_, ?_, ?_⟩ <;> (first | omega | rfl | assumption | decide | exact Or.inl rfl | exact Or.inr rfl | (simp only; omega)))) (by omega) _ (lv_sub hl [2, 3, 4, 5, 1, 6, 0] rfl)
  exact L9 (pf.toInt - (0 : Int32).toInt : Int).toNat.succ (-1) 0 _ _ hh (by first | omega | (refine ⟨?_, ?_, ?_, ?_⟩ <;> (first | omega | rfl | assumption | decide | exact Or.inl rfl | exact Or.inr rfl | (simp only; omega)))) (by omega) _ (lv_sub hl [3, 4, 5, 6, 2, 1, 0] rfl)
set_option maxHeartbeats 4000000 in
set_option maxRecDepth 20000 in
theorem uX14_goals (l : Launch) (dC : Nat → ClassId) (dI : Nat → Nat → Nat) (ca : Nat → ClassId) (base : Nat) (B : jF) (hB : jBok B) (hAp : jAp (dC, dI)) (hB14 : ∀ n G a H, B 14 n G a H ↔ jOb (dC, dI) 14 11 (F14 n G) a H) (hB15 : ∀ n G a H, B 15 n G a H ↔ jOb (dC, dI) 15 50 (F15 n G) a H) (hB16 : ∀ n G a H, B 16 n G a H ↔ jOb (dC, dI) 16 74 (F16 n G) a H) (hB101 : ∀ n G a H, B 101 n G a H ↔ jAr (dC, dI) (ca 1) (fun j z => True) n a H) (hB103 : ∀ n G a H, B 103 n G a H ↔ jAr (dC, dI) (ca 3) (fun j z => (z = 0 ∨ z = 1)) n a H) (hB150 : ∀ n G a H, B 150 n G a H ↔ jAr (dC, dI) (ca 1) (fun j z => True) n a H) (hB151 : ∀ n G a H, B 151 n G a H ↔ jAr (dC, dI) (ca 1) (fun j z => True) n a H) (hB152 : ∀ n G a H, B 152 n G a H ↔ jAr (dC, dI) (ca 1) (fun j z => True) n a H) (hB153 : ∀ n G a H, B 153 n G a H ↔ jAr (dC, dI) (ca 1) (fun j z => True) n a H) (hB154 : ∀ n G a H, B 154 n G a H ↔ jAr (dC, dI) (ca 1) (fun j z => True) n a H) (hB155 : ∀ n G a H, B 155 n G a H ↔ jAr (dC, dI) (ca 1) (fun j z => 0 ≤ z.toInt ∧ z.toInt ≤ 11990) n a H) (hB156 : ∀ n G a H, B 156 n G a H ↔ jAr (dC, dI) (ca 1) (fun j z => 0 ≤ z.toInt ∧ z.toInt ≤ 10) n a H) (hB157 : ∀ n G a H, B 157 n G a H ↔ jAr (dC, dI) (ca 1) (fun j z => 0 ≤ z.toInt ∧ z.toInt ≤ 1599) n a H) (hB158 : ∀ n G a H, B 158 n G a H ↔ jAr (dC, dI) (ca 1) (fun j z => 0 ≤ z.toInt ∧ z.toInt ≤ 6) n a H) (hB159 : ∀ n G a H, B 159 n G a H ↔ jAr (dC, dI) (ca 1) (fun j z => 0 ≤ z.toInt ∧ z.toInt ≤ 8) n a H) (hB160 : ∀ n G a H, B 160 n G a H ↔ jAr (dC, dI) (ca 1) (fun j z => 0 ≤ z.toInt ∧ z.toInt ≤ 119999) n a H) (hB161 : ∀ n G a H, B 161 n G a H ↔ jAr (dC, dI) (ca 1) (fun j z => 0 ≤ z.toInt ∧ z.toInt ≤ 119999) n a H) (hB162 : ∀ n G a H, B 162 n G a H ↔ jAr (dC, dI) (ca 1) (fun j z => 0 ≤ z.toInt ∧ z.toInt ≤ 119999) n a H) (hB163 : ∀ n G a H, B 163 n G a H ↔ jAr (dC, dI) (ca 1) (fun j z => 0 ≤ z.toInt ∧ z.toInt ≤ 1599) n a H) (hB164 : ∀ n G a H, B 164 n G a H ↔ jAr (dC, dI) (ca 1) (fun j z => 0 ≤ z.toInt ∧ z.toInt ≤ 100000) n a H) (hB165 : ∀ n G a H, B 165 n G a H ↔ jAr (dC, dI) (ca 1) (fun j z => 0 ≤ z.toInt ∧ z.toInt ≤ 3) n a H) (hB166 : ∀ n G a H, B 166 n G a H ↔ jAr (dC, dI) (ca 1) (fun j z => True) n a H) (hB167 : ∀ n G a H, B 167 n G a H ↔ jAr (dC, dI) (ca 1) (fun j z => True) n a H) (hB168 : ∀ n G a H, B 168 n G a H ↔ jAr (dC, dI) (ca 1) (fun j z => 0 ≤ z.toInt ∧ z.toInt ≤ 119999) n a H) (hB169 : ∀ n G a H, B 169 n G a H ↔ jAr (dC, dI) (ca 1) (fun j z => True) n a H) (hB190 : ∀ n G a H, B 190 n G a H ↔ jAr (dC, dI) (ca 1) (fun j z => 0 ≤ z.toInt ∧ z.toInt ≤ 1500) n a H) (hB191 : ∀ n G a H, B 191 n G a H ↔ jAr (dC, dI) (ca 1) (fun j z => 0 ≤ z.toInt ∧ z.toInt ≤ 1500) n a H) (hB192 : ∀ n G a H, B 192 n G a H ↔ jAr (dC, dI) (ca 1) (fun j z => 0 ≤ z.toInt ∧ z.toInt ≤ 2) n a H) (G0 : jT) (H0 : Heap) (r0 : Nat) (a1 : Int32) (a2 : Int32) (td : Nat) (yb : Nat) (ye : Nat) (ps : Int32) (fb : Nat → Int32) (fe : Nat → Int32) : Met l yX14_goals (jw yX14_goals cX14_goals 3 (some .int)) ({ frames := 1705, cells := 0, slots := 0, locals := 71931 }) (va_Pc [.ref r0, .int a1, .int a2] (fun U => U.heap = H0 ∧ jX B base G0 [] H0 ∧ jG dC dI ca base U ∧ G0 r0 = some (16, 0) ∧ G0 td = some (14, 0) ∧ G0 yb = some (190, 40) ∧ G0 ye = some (191, 40) ∧ jP (dC, dI) G0 H0 [(r0, 16, 71, .ref td), (td, 14, 6, .ref yb), (td, 14, 7, .ref ye), (td, 14, 5, .int ps)] ∧ jMc (dC, dI) G0 H0 [(yb, 190, 40, ca 1, fb), (ye, 191, 40, ca 1, fe)] ∧ jSrt fb fe ps.toInt 1500 ∧ 0 ≤ ps.toInt ∧ ps.toInt ≤ 40)) (va_Qi (S := Unit) (fun r u => (True)) (fun u t => jRt (dC, dI) B base G0 EX14_goals H0 [] t.heap) (jA base)) 0 0 (jA base) := by
  refine Met.ofW (cc := cX14_goals) (maxL := 3) (ret := (some .int)) (by decide) rfl ?_
  intro p e s m args below meth c s₁ Bd hml hv
  obtain ⟨rfl, hH0, hX, hG, hg_r0, hg_td, hg_yb, hg_ye, hP0, hM0, hp0, hp1, hp2⟩ := hv
  have hK := hG.1
  have hx := Bd.exec
  have hb := Bd.bytes
  have hr := Bd.returns
  have hts := atoms_spec (ws := (jw yX14_goals cX14_goals 3 (some .int))) Bd.pre
  have htw : ∀ w ∈ jWl, w.before _ s = true := fun w h => hts w (List.mem_cons_of_mem _ h)
  have hown : s.vm.findClass RX14 = some m.cls := findClass_of_methodNamed Bd.named
  have hlocks := Bd.notSynchronized
  obtain ⟨Q, hQ⟩ : ∃ Q, Q = MQ below (va_Qi (S := Unit) (fun r u => (True)) (fun u t => jRt (dC, dI) B base G0 EX14_goals H0 [] t.heap) (jA base)) ([.ref r0, .int a1, .int a2] : List Value).toArray s 0 0 (jA base) := ⟨_, rfl⟩
  rw [← hQ]
  have hl := lv_entry ([.ref r0, .int a1, .int a2]) (n := 3) (Nat.le_of_ble_eq_true rfl)
  rw [lg_entry_eq]
  generalize (lg_sl ([.ref r0, .int a1, .int a2]) ++ List.replicate (3 - (lg_sl ([.ref r0, .int a1, .int a2])).length) Slot.unset).toArray = ls at hl ⊢
  have hl : lv_has ls 3 [(0, .ref r0), (1, .int a1), (2, .int a2)] := hl
  generalize hR : (headSpec (jw yX14_goals cX14_goals 3 (some .int)) ({ frames := 1705, cells := 0, slots := 0, locals := 71931 })).room = R
  subst hH0
  have hh : jSt (dC, dI) B base G0 G0 EX14_goals s.heap 0 0 [(r0, 16, 71, .ref td), (td, 14, 6, .ref yb), (td, 14, 7, .ref ye), (td, 14, 5, .int ps)] [(yb, 190, 40, ca 1, fb), (ye, 191, 40, ca 1, fe)] [] s.heap [] := jSt.start hX hP0 hM0 jIs.nil
  clear hX hP0
  have hkm1 : ((-1) : Int32).toInt = (-1) := by decide
  have hk0 : (0 : Int32).toInt = 0 := by decide
  have hk1 : (1 : Int32).toInt = 1 := by decide
  have hly_14_5 := htw (u_lay RX12 TX12 5) (jWc_wsX120 _ (u_in_lay (by decide)))
  have hly_16_5 := htw (u_lay RX14 TX14 5) (jWc_wsX140 _ (u_in_lay (by decide)))
  have hly_16_6 := htw (u_lay RX14 TX14 6) (jWc_wsX140 _ (u_in_lay (by decide)))
  have hly_16_71 := htw (u_lay RX14 TX14 71) (jWc_wsX140 _ (u_in_lay (by decide)))
  have hlk_151 := (htw (.fieldLink RX14 151 "ProofServerModel" "told" "LProofServerModel$Document;") (jWr_12 _ (List.mem_of_getElem? (i := 23) rfl)))
  have hlk_587 := (va_Nw.use (A := ([.ref r0, .int a1, .int a2] : List Value).toArray) rfl (hG.2.1 RX14 587 "ProofServerModel$Document" "sentences" "I" "ProofServerModel" (List.mem_of_getElem? (i := 1737) (by decide +kernel))))
  have hlk_160 := (htw (.fieldLink RX14 160 "ProofServerModel" "framed" "I") (jWr_53 _ (List.mem_of_getElem? (i := 18) rfl)))
  have hlk_17 := (htw (.fieldLink RX14 17 "ProofServerModel" "frame" "[I") (jWr_10 _ (List.mem_of_getElem? (i := 20) rfl)))
  have hrg_a1 := jb_rng a1
  have hrg_a2 := jb_rng a2
  refine lv_iload_n hx hb dX14_goals_0 rfl (lv_at hl 1 rfl) ?_
  refine lv_iconst (v := (-1)) hx hb dX14_goals_1 (by decide) ?_
  refine lv_icmp_lt (tgt := 16) hx hb dX14_goals_2 (by decide) (fun c_1 => ?_) (fun c_1 => ?_)
  · skip
    have c_1' : a1.toInt < (-1) := jb_lt (rfl) ((by decide)) c_1
    refine lv_iconst (v := (-1)) hx hb dX14_goals_16 (by decide) ?_
    rw [hQ]
    exact W.iret (v := (-1)) hx hb hr (fun t ht hW => ⟨⟨(-1), (), rfl, trivial, hh.rt (M1 := []) [] rfl ht⟩, by rw [ht]; try exact hh.1.1, fun q h9 hq => by rw [ht]; try exact hh.1.2.1 q h9 hq⟩) hh.1.2.2 dX14_goals_17
  · skip
    have c_1' : a1.toInt ≥ (-1) := jb_lt_n (rfl) ((by decide)) c_1
    refine lv_iload_n hx hb dX14_goals_5 rfl (lv_at hl 1 rfl) ?_
    refine lv_aload_n hx hb dX14_goals_6 rfl (lv_at hl 0 rfl) ?_
    refine j7_read hx hb hown hK (C := RX14) (T := TX14) (N := 74) rfl hly_16_71 hlk_151 (hh.at 0 rfl) dX14_goals_7 ?_
    refine j7_readN hx hb hown hK (C := RX12) (T := TX12) (N := 11) rfl hly_14_5 hlk_587 (hh.at 3 rfl) dX14_goals_10 ?_
    refine lv_icmp_lt (tgt := 18) hx hb dX14_goals_13 (by decide) (fun c_2 => ?_) (fun c_2 => ?_)
    · skip
      have c_2' : a1.toInt < ps.toInt := jb_lt (rfl) (rfl) c_2
      refine lv_aload_n hx hb dX14_goals_18 rfl (lv_at hl 0 rfl) ?_
      refine lv_aload_n hx hb dX14_goals_19 rfl (lv_at hl 0 rfl) ?_
      refine j7_read hx hb hown hK (C := RX14) (T := TX14) (N := 74) rfl hly_16_71 hlk_151 (hh.at 0 rfl) dX14_goals_20 ?_
      refine lv_iload_n hx hb dX14_goals_23 rfl (lv_at hl 1 rfl) ?_
      refine lv_iconst (v := 1) hx hb dX14_goals_24 (by decide) ?_
      refine lv_iadd hx hb dX14_goals_25 ?_
      refine lv_topi (fun z_3 ez_3 => ?_)
      have hz_3 : z_3.toInt = a1.toInt + 1 := by rw [ez_3]; exact jb_iadd2 (rfl) ((by decide)) (by omega)
      obtain ⟨v_6, hv_6, hh_7⟩ := hh.pin (C := RX14) (T := TX14) (N := 74) hB16 rfl (by decide) hg_r0 (i := 58) (by decide) rfl
      obtain ⟨kernel_8, rfl, hg_kernel_8⟩ := hv_6
      obtain ⟨v_9, hv_9, hh_10⟩ := hh_7.pin (C := RX13) (T := TX13) (N := 50) hB15 rfl (by decide) hg_kernel_8 (i := 17) (by decide) rfl
      obtain ⟨fact_11, rfl, hg_fact_11⟩ := hv_9
      obtain ⟨v_12, hv_12, hh_13⟩ := hh_10.pin (C := RX13) (T := TX13) (N := 50) hB15 rfl (by decide) hg_kernel_8 (i := 22) (by decide) rfl
      obtain ⟨goal_14, rfl, hg_goal_14⟩ := hv_12
      obtain ⟨v_15, hv_15, hh_16⟩ := hh_13.pin (C := RX13) (T := TX13) (N := 50) hB15 rfl (by decide) hg_kernel_8 (i := 25) (by decide) rfl
      obtain ⟨hyps_17, rfl, hg_hyps_17⟩ := hv_15
      obtain ⟨v_18, hv_18, hh_19⟩ := hh_16.pin (C := RX13) (T := TX13) (N := 50) hB15 rfl (by decide) hg_kernel_8 (i := 27) (by decide) rfl
      obtain ⟨hyp_20, rfl, hg_hyp_20⟩ := hv_18
      obtain ⟨v_21, hv_21, hh_22⟩ := hh_19.pin (C := RX13) (T := TX13) (N := 50) hB15 rfl (by decide) hg_kernel_8 (i := 0) (by decide) rfl
      obtain ⟨sort_23, rfl, hg_sort_23⟩ := hv_21
      obtain ⟨v_24, hv_24, hh_25⟩ := hh_22.pin (C := RX13) (T := TX13) (N := 50) hB15 rfl (by decide) hg_kernel_8 (i := 1) (by decide) rfl
      obtain ⟨name_26, rfl, hg_name_26⟩ := hv_24
      obtain ⟨v_27, hv_27, hh_28⟩ := hh_25.pin (C := RX13) (T := TX13) (N := 50) hB15 rfl (by decide) hg_kernel_8 (i := 2) (by decide) rfl
      obtain ⟨one_29, rfl, hg_one_29⟩ := hv_27
      obtain ⟨v_30, hv_30, hh_31⟩ := hh_28.pin (C := RX13) (T := TX13) (N := 50) hB15 rfl (by decide) hg_kernel_8 (i := 3) (by decide) rfl
      obtain ⟨two_32, rfl, hg_two_32⟩ := hv_30
      obtain ⟨v_33, hv_33, hh_34⟩ := hh_31.pin (C := RX13) (T := TX13) (N := 50) hB15 rfl (by decide) hg_kernel_8 (i := 4) (by decide) rfl
      obtain ⟨three_35, rfl, hg_three_35⟩ := hv_33
      obtain ⟨v_36, hv_36, hh_37⟩ := hh_34.pin (C := RX13) (T := TX13) (N := 50) hB15 rfl (by decide) hg_kernel_8 (i := 14) (by decide) rfl
      obtain ⟨arity_38, rfl, hg_arity_38⟩ := hv_36
      obtain ⟨f_ff_39, hh_39⟩ := hh_37.cpin hB160 (by decide) (by decide) hg_fact_11
      clear hh_37
      obtain ⟨f_fg_40, hh_40⟩ := hh_39.cpin hB161 (by decide) (by decide) hg_goal_14
      clear hh_39
      obtain ⟨f_fh_41, hh_41⟩ := hh_40.cpin hB159 (by decide) (by decide) hg_hyps_17
      clear hh_40
      obtain ⟨f_fp_42, hh_42⟩ := hh_41.cpin hB162 (by decide) (by decide) hg_hyp_20
      clear hh_41
      obtain ⟨f_zs_43, hh_43⟩ := hh_42.cpin hB150 (by decide) (by decide) hg_sort_23
      clear hh_42
      obtain ⟨f_zn_44, hh_44⟩ := hh_43.cpin hB151 (by decide) (by decide) hg_name_26
      clear hh_43
      obtain ⟨f_za_45, hh_45⟩ := hh_44.cpin hB152 (by decide) (by decide) hg_one_29
      clear hh_44
      obtain ⟨f_zb_46, hh_46⟩ := hh_45.cpin hB153 (by decide) (by decide) hg_two_32
      clear hh_45
      obtain ⟨f_zc_47, hh_47⟩ := hh_46.cpin hB154 (by decide) (by decide) hg_three_35
      clear hh_46
      obtain ⟨f_zy_48, hh_48⟩ := hh_47.cpin hB165 (by decide) (by decide) hg_arity_38
      clear hh_47
      refine va_callv (A0 := jA base) (H0 := s.heap) (va_runV (As := [.ref td, .int z_3]) (rest := []) ⟨hx, hb, hml, hown, hts⟩ (uX14_reach l dC dI ca base B hB hAp hB14 hB15 hB16 hB101 hB103 hB150 hB151 hB152 hB153 hB154 hB155 hB156 hB157 hB158 hB159 hB160 hB161 hB162 hB163 hB165 hB166 hB167 hB168 hB169 hB190 hB191 hB192 G0 s.heap r0 td z_3 yb ye kernel_8 fact_11 goal_14 hyps_17 hyp_20 sort_23 name_26 one_29 two_32 three_35 arity_38 ps.toInt fb fe f_ff_39 f_fg_40 f_fh_41 f_fp_42 (jK.mk f_zs_43 f_zn_44 f_za_45 f_zb_46 f_zc_47 f_zy_48)) (cwV 2 hts (jgV (jWr_59 _ (List.mem_of_getElem? (i := 6) rfl)) (jWr_59 _ (List.mem_of_getElem? (i := 7) rfl)) (jWr_59 _ (List.mem_of_getElem? (i := 8) rfl)) (jWr_1 _ (List.mem_of_getElem? (i := 5) rfl)) (jWr_59 _ (List.mem_of_getElem? (i := 9) rfl))) rfl rfl rfl (by decide +kernel) ⟨by rw [← hR]; exact Nat.le_of_ble_eq_true rfl, by rw [← hR]; exact Nat.le_of_ble_eq_true rfl⟩) ⟨fun a U g mk q => by obtain ⟨q0, q1, q2, qK, q10, q11, q12, q13, q14, q15, q16, q17, q18, q19, q20, q21, q22, q23, q24, q25, q26, q27⟩ := q; exact ⟨q0, q1, q2, jG.calling g mk a qK, q10, q11, q12, q13, q14, q15, q16, q17, q18, q19, q20, q21, q22, q23, q24, q25, q26, q27⟩, hh_48.recv (C := RX14) (T := TX14) (N := 74) hB16 rfl (by decide) hg_r0 hK, fun U hU hW => ⟨rfl, hU, hh_48.2.1, hG.step hW hU hh_48.1, hg_td, hg_r0, hg_yb, hg_ye, hg_kernel_8, hg_fact_11, hg_goal_14, hg_hyps_17, hg_hyp_20, hg_sort_23, hg_name_26, hg_one_29, hg_two_32, hg_three_35, hg_arity_38, (hh_48.2.2.1.sub (L1 := [(td, 14, 6, .ref yb), (td, 14, 7, .ref ye), (r0, 16, 58, .ref kernel_8), (kernel_8, 15, 17, .ref fact_11), (kernel_8, 15, 22, .ref goal_14), (kernel_8, 15, 25, .ref hyps_17), (kernel_8, 15, 27, .ref hyp_20), (kernel_8, 15, 0, .ref sort_23), (kernel_8, 15, 1, .ref name_26), (kernel_8, 15, 2, .ref one_29), (kernel_8, 15, 3, .ref two_32), (kernel_8, 15, 4, .ref three_35), (kernel_8, 15, 14, .ref arity_38)]) [12, 13, 10, 9, 8, 7, 6, 5, 4, 3, 2, 1, 0] rfl), (hh_48.2.2.2.2.2.2.2.1.sub (L1 := [(yb, 190, 40, ca 1, fb), (ye, 191, 40, ca 1, fe), (fact_11, 160, 16, ca 1, f_ff_39), (goal_14, 161, 46, ca 1, f_fg_40), (hyps_17, 159, 46, ca 1, f_fh_41), (hyp_20, 162, 368, ca 1, f_fp_42), (sort_23, 150, 120000, ca 1, f_zs_43), (name_26, 151, 120000, ca 1, f_zn_44), (one_29, 152, 120000, ca 1, f_za_45), (two_32, 153, 120000, ca 1, f_zb_46), (three_35, 154, 120000, ca 1, f_zc_47), (arity_38, 165, 16, ca 1, f_zy_48)]) [10, 11, 9, 8, 7, 6, 5, 4, 3, 2, 1, 0] rfl), ⟨(by first | assumption | exact hp0 | omega), (by first | omega | rfl | assumption | exact hp0), (by first | omega | rfl | assumption | exact hp0), (by first | omega | rfl | assumption | exact hp0)⟩⟩⟩ rfl rfl hl.1 rfl (lv_room (Nat.le_of_ble_eq_true rfl)) dX14_goals_26 ⟨Nat.zero_le _, Nat.zero_le _⟩) hh_48.1 (fun q _ h => h) (fun q h => h) (fun u_4 t_4 H_4 locs_4 ht_4 hvm_4 hr_5 hb_4 hz_4 hk_4 hS_4 => ?_)
      obtain ⟨qn_4, qy_4, qf_4, qg_4, qp_4, ql_4, qc_4, qz_4, gf_4, gg_4, gh_4, gp_4, D_4⟩ := u_4
      rw [ht_4] at hb_4
      obtain ⟨⟨hb_41, hb_42, hb_43, hb_44, hb_45⟩, hb_46⟩ := hb_4
      have hh_4 : jSt (dC, dI) B base G0 G0 EX14_goals s.heap 0 0 [(kernel_8, 15, 5, .int qn_4), (kernel_8, 15, 11, .int qy_4), (kernel_8, 15, 15, .int qf_4), (kernel_8, 15, 21, .int qg_4), (kernel_8, 15, 18, .int qp_4), (kernel_8, 15, 20, .int ql_4), (kernel_8, 15, 10, .int qc_4), (kernel_8, 15, 7, .int qz_4), (kernel_8, 15, 14, .ref arity_38), (kernel_8, 15, 4, .ref three_35), (kernel_8, 15, 3, .ref two_32), (kernel_8, 15, 2, .ref one_29), (kernel_8, 15, 1, .ref name_26), (kernel_8, 15, 0, .ref sort_23), (kernel_8, 15, 27, .ref hyp_20), (kernel_8, 15, 25, .ref hyps_17), (kernel_8, 15, 22, .ref goal_14), (kernel_8, 15, 17, .ref fact_11), (r0, 16, 58, .ref kernel_8), (r0, 16, 71, .ref td), (td, 14, 6, .ref yb), (td, 14, 7, .ref ye), (td, 14, 5, .int ps)] [(fact_11, 160, 16, ca 1, gf_4), (goal_14, 161, 46, ca 1, gg_4), (hyps_17, 159, 46, ca 1, gh_4), (hyp_20, 162, 368, ca 1, gp_4), (sort_23, 150, 120000, ca 1, D_4.s), (name_26, 151, 120000, ca 1, D_4.n), (one_29, 152, 120000, ca 1, D_4.a), (two_32, 153, 120000, ca 1, D_4.b), (three_35, 154, 120000, ca 1, D_4.c), (arity_38, 165, 16, ca 1, D_4.y), (yb, 190, 40, ca 1, fb), (ye, 191, 40, ca 1, fe)] [] H_4 locs_4 := ((hh_48.call hb_41 hb_42 hb_43 hb_44 hS_4 rfl (L1 := [(kernel_8, 15, 14, .ref arity_38), (kernel_8, 15, 4, .ref three_35), (kernel_8, 15, 3, .ref two_32), (kernel_8, 15, 2, .ref one_29), (kernel_8, 15, 1, .ref name_26), (kernel_8, 15, 0, .ref sort_23), (kernel_8, 15, 27, .ref hyp_20), (kernel_8, 15, 25, .ref hyps_17), (kernel_8, 15, 22, .ref goal_14), (kernel_8, 15, 17, .ref fact_11), (r0, 16, 58, .ref kernel_8), (r0, 16, 71, .ref td), (td, 14, 6, .ref yb), (td, 14, 7, .ref ye), (td, 14, 5, .int ps)]) [0, 1, 2, 3, 4, 5, 6, 7, 8, 9, 10, 11, 12, 13, 14] rfl rfl (M1 := [(yb, 190, 40, ca 1, fb), (ye, 191, 40, ca 1, fe)]) [10, 11] rfl rfl (I1 := []) [] rfl rfl).more hb_45).moreM hb_46
      clear hh_48 ht_4 hvm_4 hz_4 hk_4 hS_4 hb_41 hb_42 hb_43 hb_44 hb_45
      clear hb_46
      try simp only at hr_5
      obtain ⟨hr_5_0, hr_5_1, hr_5_2, hr_5_3, hr_5_4, hr_5_5⟩ := hr_5
      refine lv_aload_n hx hb dX14_goals_29 rfl (lv_at hl 0 rfl) ?_
      refine lv_iconst (v := 0) hx hb dX14_goals_30 (by decide) ?_
      refine j7_put hx hb hown hK hh_4 hB hAp hB16 (C := RX14) (T := TX14) (N := 74) rfl (by decide) hg_r0 (i := 6) (by decide) hly_16_6 rfl hlk_160 rfl (ty := .int) (v := .int 0) (by decide +kernel) rfl rfl (⟨_, rfl, by omega, by omega⟩) rfl (L1 := [(kernel_8, 15, 5, .int qn_4), (kernel_8, 15, 11, .int qy_4), (kernel_8, 15, 15, .int qf_4), (kernel_8, 15, 21, .int qg_4), (kernel_8, 15, 18, .int qp_4), (kernel_8, 15, 20, .int ql_4), (kernel_8, 15, 10, .int qc_4), (kernel_8, 15, 7, .int qz_4), (kernel_8, 15, 14, .ref arity_38), (kernel_8, 15, 4, .ref three_35), (kernel_8, 15, 3, .ref two_32), (kernel_8, 15, 2, .ref one_29), (kernel_8, 15, 1, .ref name_26), (kernel_8, 15, 0, .ref sort_23), (kernel_8, 15, 27, .ref hyp_20), (kernel_8, 15, 25, .ref hyps_17), (kernel_8, 15, 22, .ref goal_14), (kernel_8, 15, 17, .ref fact_11), (r0, 16, 58, .ref kernel_8), (r0, 16, 71, .ref td), (td, 14, 6, .ref yb), (td, 14, 7, .ref ye), (td, 14, 5, .int ps)]) [0, 1, 2, 3, 4, 5, 6, 7, 8, 9, 10, 11, 12, 13, 14, 15, 16, 17, 18, 19, 20, 21, 22] rfl rfl rfl dX14_goals_31 (fun H_49 locs_49 hh_49 => ?_)
      clear hh_4
      have hKx := hr_5_2
      obtain ⟨x1, x2, x3, x4, x5, x6, x7, x8, x9, x10⟩ := hKx
      refine lv_aload_n hx hb dX14_goals_34 rfl (lv_at hl 0 rfl) ?_
      refine va_callv (A0 := jA base) (H0 := s.heap) (va_runV (As := []) (rest := []) ⟨hx, hb, hml, hown, hts⟩ (uX14_goalsOf l dC dI ca base B hB hAp hB15 hB16 hB101 hB150 hB151 hB152 hB153 hB154 hB155 hB156 hB158 hB159 hB161 hB162 hB163 hB164 hB165 hB166 G0 H_49 r0 kernel_8 qg_4 goal_14 hyps_17 hyp_20 sort_23 name_26 one_29 two_32 three_35 arity_38 qn_4.toInt qy_4.toInt gg_4 gh_4 gp_4 D_4) (cwV 0 hts (jgV (jWr_69 _ (List.mem_of_getElem? (i := 23) rfl)) (jWr_70 _ (List.mem_of_getElem? (i := 0) rfl)) (jWr_70 _ (List.mem_of_getElem? (i := 1) rfl)) (jWr_1 _ (List.mem_of_getElem? (i := 5) rfl)) (jWr_70 _ (List.mem_of_getElem? (i := 2) rfl))) rfl rfl rfl (by decide +kernel) ⟨by rw [← hR]; exact Nat.le_of_ble_eq_true rfl, by rw [← hR]; exact Nat.le_of_ble_eq_true rfl⟩) ⟨fun a U g mk q => by obtain ⟨q0, q1, q2, qK, q10, q11, q12, q13, q14, q15, q16, q17, q18, q19, q20, q21, q22, q23⟩ := q; exact ⟨q0, q1, q2, jG.calling g mk a qK, q10, q11, q12, q13, q14, q15, q16, q17, q18, q19, q20, q21, q22, q23⟩, hh_49.recv (C := RX14) (T := TX14) (N := 74) hB16 rfl (by decide) hg_r0 hK, fun U hU hW => ⟨rfl, hU, hh_49.2.1, hG.step hW hU hh_49.1, hg_r0, hg_kernel_8, hg_goal_14, hg_hyps_17, hg_hyp_20, hg_sort_23, hg_name_26, hg_one_29, hg_two_32, hg_three_35, hg_arity_38, (hh_49.2.2.1.sub (L1 := [(r0, 16, 58, .ref kernel_8), (kernel_8, 15, 21, .int qg_4), (kernel_8, 15, 22, .ref goal_14), (kernel_8, 15, 25, .ref hyps_17), (kernel_8, 15, 27, .ref hyp_20), (kernel_8, 15, 0, .ref sort_23), (kernel_8, 15, 1, .ref name_26), (kernel_8, 15, 2, .ref one_29), (kernel_8, 15, 3, .ref two_32), (kernel_8, 15, 4, .ref three_35), (kernel_8, 15, 14, .ref arity_38)]) [19, 4, 17, 16, 15, 14, 13, 12, 11, 10, 9] rfl), (hh_49.2.2.2.2.2.2.2.1.sub (L1 := [(goal_14, 161, 46, ca 1, gg_4), (hyps_17, 159, 46, ca 1, gh_4), (hyp_20, 162, 368, ca 1, gp_4), (sort_23, 150, 120000, ca 1, D_4.s), (name_26, 151, 120000, ca 1, D_4.n), (one_29, 152, 120000, ca 1, D_4.a), (two_32, 153, 120000, ca 1, D_4.b), (three_35, 154, 120000, ca 1, D_4.c), (arity_38, 165, 16, ca 1, D_4.y)]) [1, 2, 3, 4, 5, 6, 7, 8, 9] rfl), ⟨(by first | assumption | exact x9 | omega), (by first | omega | rfl | assumption | exact x9), (by first | omega | rfl | assumption | exact x9), (by first | omega | rfl | assumption | exact x9), (by first | omega | rfl | assumption | exact x9)⟩⟩⟩ rfl rfl hl.1 rfl (lv_room (Nat.le_of_ble_eq_true rfl)) dX14_goals_35 ⟨Nat.zero_le _, Nat.zero_le _⟩) hh_49.1 (fun q _ h => h) (fun q h => h) (fun u_50 t_50 H_50 locs_50 ht_50 hvm_50 hr_51 hb_50 hz_50 hk_50 hS_50 => ?_)
      rw [ht_50] at hb_50
      obtain ⟨hb_501, hb_502, hb_503, hb_504, hb_505⟩ := hb_50
      have hh_50 : jSt (dC, dI) B base G0 G0 EX14_goals s.heap 0 0 [(kernel_8, 15, 5, .int qn_4), (kernel_8, 15, 11, .int qy_4), (kernel_8, 15, 15, .int qf_4), (kernel_8, 15, 21, .int qg_4), (kernel_8, 15, 18, .int qp_4), (kernel_8, 15, 20, .int ql_4), (kernel_8, 15, 10, .int qc_4), (kernel_8, 15, 7, .int qz_4), (kernel_8, 15, 14, .ref arity_38), (kernel_8, 15, 4, .ref three_35), (kernel_8, 15, 3, .ref two_32), (kernel_8, 15, 2, .ref one_29), (kernel_8, 15, 1, .ref name_26), (kernel_8, 15, 0, .ref sort_23), (kernel_8, 15, 27, .ref hyp_20), (kernel_8, 15, 25, .ref hyps_17), (kernel_8, 15, 22, .ref goal_14), (kernel_8, 15, 17, .ref fact_11), (r0, 16, 58, .ref kernel_8), (r0, 16, 71, .ref td), (td, 14, 6, .ref yb), (td, 14, 7, .ref ye), (td, 14, 5, .int ps)] [(fact_11, 160, 16, ca 1, gf_4), (goal_14, 161, 46, ca 1, gg_4), (hyps_17, 159, 46, ca 1, gh_4), (hyp_20, 162, 368, ca 1, gp_4), (sort_23, 150, 120000, ca 1, D_4.s), (name_26, 151, 120000, ca 1, D_4.n), (one_29, 152, 120000, ca 1, D_4.a), (two_32, 153, 120000, ca 1, D_4.b), (three_35, 154, 120000, ca 1, D_4.c), (arity_38, 165, 16, ca 1, D_4.y), (yb, 190, 40, ca 1, fb), (ye, 191, 40, ca 1, fe)] [] H_50 locs_50 := ((hh_49.call hb_501 hb_502 hb_503 hb_504 hS_50 rfl (L1 := [(kernel_8, 15, 5, .int qn_4), (kernel_8, 15, 11, .int qy_4), (kernel_8, 15, 15, .int qf_4), (kernel_8, 15, 21, .int qg_4), (kernel_8, 15, 18, .int qp_4), (kernel_8, 15, 20, .int ql_4), (kernel_8, 15, 10, .int qc_4), (kernel_8, 15, 7, .int qz_4), (kernel_8, 15, 14, .ref arity_38), (kernel_8, 15, 4, .ref three_35), (kernel_8, 15, 3, .ref two_32), (kernel_8, 15, 2, .ref one_29), (kernel_8, 15, 1, .ref name_26), (kernel_8, 15, 0, .ref sort_23), (kernel_8, 15, 27, .ref hyp_20), (kernel_8, 15, 25, .ref hyps_17), (kernel_8, 15, 22, .ref goal_14), (kernel_8, 15, 17, .ref fact_11), (r0, 16, 58, .ref kernel_8), (r0, 16, 71, .ref td), (td, 14, 6, .ref yb), (td, 14, 7, .ref ye), (td, 14, 5, .int ps)]) [1, 2, 3, 4, 5, 6, 7, 8, 9, 10, 11, 12, 13, 14, 15, 16, 17, 18, 19, 20, 21, 22, 23] rfl rfl (M1 := [(fact_11, 160, 16, ca 1, gf_4), (goal_14, 161, 46, ca 1, gg_4), (hyps_17, 159, 46, ca 1, gh_4), (hyp_20, 162, 368, ca 1, gp_4), (sort_23, 150, 120000, ca 1, D_4.s), (name_26, 151, 120000, ca 1, D_4.n), (one_29, 152, 120000, ca 1, D_4.a), (two_32, 153, 120000, ca 1, D_4.b), (three_35, 154, 120000, ca 1, D_4.c), (arity_38, 165, 16, ca 1, D_4.y), (yb, 190, 40, ca 1, fb), (ye, 191, 40, ca 1, fe)]) [0, 1, 2, 3, 4, 5, 6, 7, 8, 9, 10, 11] rfl rfl (I1 := []) [] rfl rfl).more hb_505)
      clear hh_49 ht_50 hvm_50 hz_50 hk_50 hS_50 hb_501 hb_502 hb_503 hb_504 hb_505
      refine lv_iload_n hx hb dX14_goals_38 rfl (lv_at hl 2 rfl) ?_
      refine lv_if_lt (tgt := 59) hx hb dX14_goals_39 (by decide) (fun c_52 => ?_) (fun c_52 => ?_)
      · skip
        have c_52' : a2.toInt < 0 := jb_lt (rfl) ((by decide)) c_52
        refine lv_iconst (v := (-1)) hx hb dX14_goals_59 (by decide) ?_
        rw [hQ]
        exact W.iret (v := (-1)) hx hb hr (fun t ht hW => ⟨⟨(-1), (), rfl, trivial, hh_50.rt (M1 := []) [] rfl ht⟩, by rw [ht]; try exact hh_50.1.1, fun q h9 hq => by rw [ht]; try exact hh_50.1.2.1 q h9 hq⟩) hh_50.1.2.2 dX14_goals_60
      · skip
        have c_52' : a2.toInt ≥ 0 := jb_lt_n (rfl) ((by decide)) c_52
        refine lv_iload_n hx hb dX14_goals_42 rfl (lv_at hl 2 rfl) ?_
        refine lv_aload_n hx hb dX14_goals_43 rfl (lv_at hl 0 rfl) ?_
        obtain ⟨v_53, hv_53, hh_54⟩ := hh_50.pin (C := RX14) (T := TX14) (N := 74) hB16 rfl (by decide) hg_r0 (i := 6) (by decide) rfl
        clear hh_50
        obtain ⟨framed_55, rfl, hloframed_55, hhiframed_55⟩ := hv_53
        refine j7_read hx hb hown hK (C := RX14) (T := TX14) (N := 74) rfl hly_16_6 hlk_160 (hh_54.at 0 rfl) dX14_goals_44 ?_
        refine lv_icmp_ge (tgt := 59) hx hb dX14_goals_47 (by decide) (fun c_56 => ?_) (fun c_56 => ?_)
        · skip
          have c_56' : a2.toInt ≥ framed_55.toInt := jb_ge (rfl) (rfl) c_56
          refine lv_iconst (v := (-1)) hx hb dX14_goals_59 (by decide) ?_
          rw [hQ]
          exact W.iret (v := (-1)) hx hb hr (fun t ht hW => ⟨⟨(-1), (), rfl, trivial, hh_54.rt (M1 := []) [] rfl ht⟩, by rw [ht]; try exact hh_54.1.1, fun q h9 hq => by rw [ht]; try exact hh_54.1.2.1 q h9 hq⟩) hh_54.1.2.2 dX14_goals_60
        · skip
          have c_56' : a2.toInt < framed_55.toInt := jb_ge_n (rfl) (rfl) c_56
          refine lv_aload_n hx hb dX14_goals_50 rfl (lv_at hl 0 rfl) ?_
          obtain ⟨v_57, hv_57, hh_58⟩ := hh_54.pin (C := RX14) (T := TX14) (N := 74) hB16 rfl (by decide) hg_r0 (i := 5) (by decide) rfl
          clear hh_54
          obtain ⟨frame_59, rfl, hg_frame_59⟩ := hv_57
          refine j7_read hx hb hown hK (C := RX14) (T := TX14) (N := 74) rfl hly_16_5 hlk_17 (hh_58.at 0 rfl) dX14_goals_51 ?_
          refine lv_iload_n hx hb dX14_goals_54 rfl (lv_at hl 2 rfl) ?_
          refine j7_iald hx hb hK hh_58 hB101 1 rfl (by decide) hg_frame_59 (x := a2.toInt) (rfl) (by omega) dX14_goals_55 (fun z_60 (hz_60 : True) => ?_)
          refine lv_goto (tgt := 60) hx hb dX14_goals_56 (by decide) ?_
          rw [hQ]
          exact W.iret (v := z_60) hx hb hr (fun t ht hW => ⟨⟨z_60, (), rfl, trivial, hh_58.rt (M1 := []) [] rfl ht⟩, by rw [ht]; try exact hh_58.1.1, fun q h9 hq => by rw [ht]; try exact hh_58.1.2.1 q h9 hq⟩) hh_58.1.2.2 dX14_goals_60
    · skip
      have c_2' : a1.toInt ≥ ps.toInt := jb_lt_n (rfl) (rfl) c_2
      refine lv_iconst (v := (-1)) hx hb dX14_goals_16 (by decide) ?_
      rw [hQ]
      exact W.iret (v := (-1)) hx hb hr (fun t ht hW => ⟨⟨(-1), (), rfl, trivial, hh.rt (M1 := []) [] rfl ht⟩, by rw [ht]; try exact hh.1.1, fun q h9 hq => by rw [ht]; try exact hh.1.2.1 q h9 hq⟩) hh.1.2.2 dX14_goals_17
set_option maxHeartbeats 4000000 in
set_option maxRecDepth 20000 in
theorem uX14_verdict (l : Launch) (dC : Nat → ClassId) (dI : Nat → Nat → Nat) (ca : Nat → ClassId) (base : Nat) (B : jF) (hB : jBok B) (hAp : jAp (dC, dI)) (hB14 : ∀ n G a H, B 14 n G a H ↔ jOb (dC, dI) 14 11 (F14 n G) a H) (hB15 : ∀ n G a H, B 15 n G a H ↔ jOb (dC, dI) 15 50 (F15 n G) a H) (hB16 : ∀ n G a H, B 16 n G a H ↔ jOb (dC, dI) 16 74 (F16 n G) a H) (hB101 : ∀ n G a H, B 101 n G a H ↔ jAr (dC, dI) (ca 1) (fun j z => True) n a H) (hB155 : ∀ n G a H, B 155 n G a H ↔ jAr (dC, dI) (ca 1) (fun j z => 0 ≤ z.toInt ∧ z.toInt ≤ 11990) n a H) (hB156 : ∀ n G a H, B 156 n G a H ↔ jAr (dC, dI) (ca 1) (fun j z => 0 ≤ z.toInt ∧ z.toInt ≤ 10) n a H) (hB157 : ∀ n G a H, B 157 n G a H ↔ jAr (dC, dI) (ca 1) (fun j z => 0 ≤ z.toInt ∧ z.toInt ≤ 1599) n a H) (hB166 : ∀ n G a H, B 166 n G a H ↔ jAr (dC, dI) (ca 1) (fun j z => True) n a H) (hB167 : ∀ n G a H, B 167 n G a H ↔ jAr (dC, dI) (ca 1) (fun j z => True) n a H) (hB190 : ∀ n G a H, B 190 n G a H ↔ jAr (dC, dI) (ca 1) (fun j z => 0 ≤ z.toInt ∧ z.toInt ≤ 1500) n a H) (hB191 : ∀ n G a H, B 191 n G a H ↔ jAr (dC, dI) (ca 1) (fun j z => 0 ≤ z.toInt ∧ z.toInt ≤ 1500) n a H) (hB192 : ∀ n G a H, B 192 n G a H ↔ jAr (dC, dI) (ca 1) (fun j z => 0 ≤ z.toInt ∧ z.toInt ≤ 2) n a H) (hB193 : ∀ n G a H, B 193 n G a H ↔ jAr (dC, dI) (ca 1) (fun j z => True) n a H) (G0 : jT) (H0 : Heap) (r0 : Nat) (a1 : Int32) (a2 : Int32) (td : Nat) (yb : Nat) (ye : Nat) (ps : Int32) (fb : Nat → Int32) (fe : Nat → Int32) : Met l yX14_verdict (jw yX14_verdict cX14_verdict 3 (some .int)) ({ frames := 6, cells := 0, slots := 0, locals := 136 }) (va_Pc [.ref r0, .int a1, .int a2] (fun U => U.heap = H0 ∧ jX B base G0 [] H0 ∧ jG dC dI ca base U ∧ G0 r0 = some (16, 0) ∧ G0 td = some (14, 0) ∧ G0 yb = some (190, 40) ∧ G0 ye = some (191, 40) ∧ jP (dC, dI) G0 H0 [(r0, 16, 71, .ref td), (td, 14, 6, .ref yb), (td, 14, 7, .ref ye), (td, 14, 5, .int ps)] ∧ jMc (dC, dI) G0 H0 [(yb, 190, 40, ca 1, fb), (ye, 191, 40, ca 1, fe)] ∧ jSrt fb fe ps.toInt 1500 ∧ 0 ≤ ps.toInt ∧ ps.toInt ≤ 40)) (va_Qi (S := Unit) (fun r u => (True)) (fun u t => jRt (dC, dI) B base G0 EX14_verdict H0 [] t.heap) (jA base)) 0 0 (jA base) := by
  refine Met.ofW (cc := cX14_verdict) (maxL := 3) (ret := (some .int)) (by decide) rfl ?_
  intro p e s m args below meth c s₁ Bd hml hv
  obtain ⟨rfl, hH0, hX, hG, hg_r0, hg_td, hg_yb, hg_ye, hP0, hM0, hp0, hp1, hp2⟩ := hv
  have hK := hG.1
  have hx := Bd.exec
  have hb := Bd.bytes
  have hr := Bd.returns
  have hts := atoms_spec (ws := (jw yX14_verdict cX14_verdict 3 (some .int))) Bd.pre
  have htw : ∀ w ∈ jWl, w.before _ s = true := fun w h => hts w (List.mem_cons_of_mem _ h)
  have hown : s.vm.findClass RX14 = some m.cls := findClass_of_methodNamed Bd.named
  have hlocks := Bd.notSynchronized
  obtain ⟨Q, hQ⟩ : ∃ Q, Q = MQ below (va_Qi (S := Unit) (fun r u => (True)) (fun u t => jRt (dC, dI) B base G0 EX14_verdict H0 [] t.heap) (jA base)) ([.ref r0, .int a1, .int a2] : List Value).toArray s 0 0 (jA base) := ⟨_, rfl⟩
  rw [← hQ]
  have hl := lv_entry ([.ref r0, .int a1, .int a2]) (n := 3) (Nat.le_of_ble_eq_true rfl)
  rw [lg_entry_eq]
  generalize (lg_sl ([.ref r0, .int a1, .int a2]) ++ List.replicate (3 - (lg_sl ([.ref r0, .int a1, .int a2])).length) Slot.unset).toArray = ls at hl ⊢
  have hl : lv_has ls 3 [(0, .ref r0), (1, .int a1), (2, .int a2)] := hl
  generalize hR : (headSpec (jw yX14_verdict cX14_verdict 3 (some .int)) ({ frames := 6, cells := 0, slots := 0, locals := 136 })).room = R
  subst hH0
  have hh : jSt (dC, dI) B base G0 G0 EX14_verdict s.heap 0 0 [(r0, 16, 71, .ref td), (td, 14, 6, .ref yb), (td, 14, 7, .ref ye), (td, 14, 5, .int ps)] [(yb, 190, 40, ca 1, fb), (ye, 191, 40, ca 1, fe)] [] s.heap [] := jSt.start hX hP0 hM0 jIs.nil
  clear hX hP0
  have hkm1 : ((-1) : Int32).toInt = (-1) := by decide
  have hk0 : (0 : Int32).toInt = 0 := by decide
  have hk1 : (1 : Int32).toInt = 1 := by decide
  have hly_14_5 := htw (u_lay RX12 TX12 5) (jWc_wsX120 _ (u_in_lay (by decide)))
  have hly_14_6 := htw (u_lay RX12 TX12 6) (jWc_wsX120 _ (u_in_lay (by decide)))
  have hly_14_7 := htw (u_lay RX12 TX12 7) (jWc_wsX120 _ (u_in_lay (by decide)))
  have hly_14_10 := htw (u_lay RX12 TX12 10) (jWc_wsX120 _ (u_in_lay (by decide)))
  have hly_16_71 := htw (u_lay RX14 TX14 71) (jWc_wsX140 _ (u_in_lay (by decide)))
  have hly_16_72 := htw (u_lay RX14 TX14 72) (jWc_wsX140 _ (u_in_lay (by decide)))
  have hly_16_73 := htw (u_lay RX14 TX14 73) (jWc_wsX140 _ (u_in_lay (by decide)))
  have hlk_151 := (htw (.fieldLink RX14 151 "ProofServerModel" "told" "LProofServerModel$Document;") (jWr_12 _ (List.mem_of_getElem? (i := 23) rfl)))
  have hlk_587 := (va_Nw.use (A := ([.ref r0, .int a1, .int a2] : List Value).toArray) rfl (hG.2.1 RX14 587 "ProofServerModel$Document" "sentences" "I" "ProofServerModel" (List.mem_of_getElem? (i := 1737) (by decide +kernel))))
  have hlk_596 := (va_Nw.use (A := ([.ref r0, .int a1, .int a2] : List Value).toArray) rfl (hG.2.1 RX14 596 "ProofServerModel$Document" "begin" "[I" "ProofServerModel" (List.mem_of_getElem? (i := 1739) (by decide +kernel))))
  have hlk_594 := (va_Nw.use (A := ([.ref r0, .int a1, .int a2] : List Value).toArray) rfl (hG.2.1 RX14 594 "ProofServerModel$Document" "end" "[I" "ProofServerModel" (List.mem_of_getElem? (i := 1741) (by decide +kernel))))
  have hlk_751 := (va_Nw.use (A := ([.ref r0, .int a1, .int a2] : List Value).toArray) rfl (hG.2.1 RX14 751 "ProofServerModel$Document" "fault" "[I" "ProofServerModel" (List.mem_of_getElem? (i := 1746) (by decide +kernel))))
  have hlk_154 := (htw (.fieldLink RX14 154 "ProofServerModel" "toldGoals" "[I") (jWr_13 _ (List.mem_of_getElem? (i := 0) rfl)))
  have hlk_157 := (htw (.fieldLink RX14 157 "ProofServerModel" "toldFacts" "[I") (jWr_13 _ (List.mem_of_getElem? (i := 1) rfl)))
  have hrg_a1 := jb_rng a1
  have hrg_a2 := jb_rng a2
  refine lv_iload_n hx hb dX14_verdict_0 rfl (lv_at hl 1 rfl) ?_
  refine lv_if_lt (tgt := 15) hx hb dX14_verdict_1 (by decide) (fun c_1 => ?_) (fun c_1 => ?_)
  · skip
    have c_1' : a1.toInt < 0 := jb_lt (rfl) ((by decide)) c_1
    refine lv_iconst (v := (-1)) hx hb dX14_verdict_15 (by decide) ?_
    rw [hQ]
    exact W.iret (v := (-1)) hx hb hr (fun t ht hW => ⟨⟨(-1), (), rfl, trivial, hh.rt (M1 := []) [] rfl ht⟩, by rw [ht]; try exact hh.1.1, fun q h9 hq => by rw [ht]; try exact hh.1.2.1 q h9 hq⟩) hh.1.2.2 dX14_verdict_16
  · skip
    have c_1' : a1.toInt ≥ 0 := jb_lt_n (rfl) ((by decide)) c_1
    refine lv_iload_n hx hb dX14_verdict_4 rfl (lv_at hl 1 rfl) ?_
    refine lv_aload_n hx hb dX14_verdict_5 rfl (lv_at hl 0 rfl) ?_
    refine j7_read hx hb hown hK (C := RX14) (T := TX14) (N := 74) rfl hly_16_71 hlk_151 (hh.at 0 rfl) dX14_verdict_6 ?_
    refine j7_readN hx hb hown hK (C := RX12) (T := TX12) (N := 11) rfl hly_14_5 hlk_587 (hh.at 3 rfl) dX14_verdict_9 ?_
    refine lv_icmp_lt (tgt := 17) hx hb dX14_verdict_12 (by decide) (fun c_2 => ?_) (fun c_2 => ?_)
    · skip
      have c_2' : a1.toInt < ps.toInt := jb_lt (rfl) (rfl) c_2
      refine lv_iload_n hx hb dX14_verdict_17 rfl (lv_at hl 2 rfl) ?_
      rcases (by omega : (a2.toInt < 0 ∨ 5 < a2.toInt) ∨ a2.toInt = 0 ∨ a2.toInt = 1 ∨ a2.toInt = 2 ∨ a2.toInt = 3 ∨ a2.toInt = 4 ∨ a2.toInt = 5) with c_3 | c_3 | c_3 | c_3 | c_3 | c_3 | c_3
      · refine lv_tableOut (tgt := 110) hx hb dX14_verdict_18 c_3 (by decide) ?_
        refine lv_iconst (v := (-1)) hx hb dX14_verdict_110 (by decide) ?_
        rw [hQ]
        exact W.iret (v := (-1)) hx hb hr (fun t ht hW => ⟨⟨(-1), (), rfl, trivial, hh.rt (M1 := []) [] rfl ht⟩, by rw [ht]; try exact hh.1.1, fun q h9 hq => by rw [ht]; try exact hh.1.2.1 q h9 hq⟩) hh.1.2.2 dX14_verdict_111
      · refine lv_tableIn (off := 38) (tgt := 56) hx hb dX14_verdict_18 (by omega) (by omega) (by rw [c_3]; rfl) (by decide) ?_
        refine lv_aload_n hx hb dX14_verdict_56 rfl (lv_at hl 0 rfl) ?_
        refine j7_read hx hb hown hK (C := RX14) (T := TX14) (N := 74) rfl hly_16_71 hlk_151 (hh.at 0 rfl) dX14_verdict_57 ?_
        refine j7_readN hx hb hown hK (C := RX12) (T := TX12) (N := 11) rfl hly_14_6 hlk_596 (hh.at 1 rfl) dX14_verdict_60 ?_
        refine lv_iload_n hx hb dX14_verdict_63 rfl (lv_at hl 1 rfl) ?_
        refine j7_ialdM hx hb hK hh hB190 1 rfl (by decide) hg_yb (x := a1.toInt) (rfl) (by omega) (j := 0) rfl dX14_verdict_64 (fun z_4 ez_4 (hz_4 : 0 ≤ z_4.toInt ∧ z_4.toInt ≤ 1500) => ?_)
        have hqz_4 : z_4.toInt = jSo fb (a1.toInt) := by unfold jSo; rw [ez_4]
        rw [hQ]
        exact W.iret (v := z_4) hx hb hr (fun t ht hW => ⟨⟨z_4, (), rfl, trivial, hh.rt (M1 := []) [] rfl ht⟩, by rw [ht]; try exact hh.1.1, fun q h9 hq => by rw [ht]; try exact hh.1.2.1 q h9 hq⟩) hh.1.2.2 dX14_verdict_65
      · refine lv_tableIn (off := 48) (tgt := 66) hx hb dX14_verdict_18 (by omega) (by omega) (by rw [c_3]; rfl) (by decide) ?_
        refine lv_aload_n hx hb dX14_verdict_66 rfl (lv_at hl 0 rfl) ?_
        refine j7_read hx hb hown hK (C := RX14) (T := TX14) (N := 74) rfl hly_16_71 hlk_151 (hh.at 0 rfl) dX14_verdict_67 ?_
        refine j7_readN hx hb hown hK (C := RX12) (T := TX12) (N := 11) rfl hly_14_7 hlk_594 (hh.at 2 rfl) dX14_verdict_70 ?_
        refine lv_iload_n hx hb dX14_verdict_73 rfl (lv_at hl 1 rfl) ?_
        refine j7_ialdM hx hb hK hh hB191 1 rfl (by decide) hg_ye (x := a1.toInt) (rfl) (by omega) (j := 1) rfl dX14_verdict_74 (fun z_5 ez_5 (hz_5 : 0 ≤ z_5.toInt ∧ z_5.toInt ≤ 1500) => ?_)
        have hqz_5 : z_5.toInt = jSo fe (a1.toInt) := by unfold jSo; rw [ez_5]
        rw [hQ]
        exact W.iret (v := z_5) hx hb hr (fun t ht hW => ⟨⟨z_5, (), rfl, trivial, hh.rt (M1 := []) [] rfl ht⟩, by rw [ht]; try exact hh.1.1, fun q h9 hq => by rw [ht]; try exact hh.1.2.1 q h9 hq⟩) hh.1.2.2 dX14_verdict_75
      · refine lv_tableIn (off := 58) (tgt := 76) hx hb dX14_verdict_18 (by omega) (by omega) (by rw [c_3]; rfl) (by decide) ?_
        refine lv_aload_n hx hb dX14_verdict_76 rfl (lv_at hl 0 rfl) ?_
        refine j7_read hx hb hown hK (C := RX14) (T := TX14) (N := 74) rfl hly_16_71 hlk_151 (hh.at 0 rfl) dX14_verdict_77 ?_
        obtain ⟨v_6, hv_6, hh_7⟩ := hh.pin (C := RX12) (T := TX12) (N := 11) hB14 rfl (by decide) hg_td (i := 10) (by decide) rfl
        clear hh
        obtain ⟨fault_8, rfl, hg_fault_8⟩ := hv_6
        refine j7_readN hx hb hown hK (C := RX12) (T := TX12) (N := 11) rfl hly_14_10 hlk_751 (hh_7.at 0 rfl) dX14_verdict_80 ?_
        refine lv_iload_n hx hb dX14_verdict_83 rfl (lv_at hl 1 rfl) ?_
        refine j7_iald hx hb hK hh_7 hB193 1 rfl (by decide) hg_fault_8 (x := a1.toInt) (rfl) (by omega) dX14_verdict_84 (fun z_9 (hz_9 : True) => ?_)
        rw [hQ]
        exact W.iret (v := z_9) hx hb hr (fun t ht hW => ⟨⟨z_9, (), rfl, trivial, hh_7.rt (M1 := []) [] rfl ht⟩, by rw [ht]; try exact hh_7.1.1, fun q h9 hq => by rw [ht]; try exact hh_7.1.2.1 q h9 hq⟩) hh_7.1.2.2 dX14_verdict_85
      · refine lv_tableIn (off := 68) (tgt := 86) hx hb dX14_verdict_18 (by omega) (by omega) (by rw [c_3]; rfl) (by decide) ?_
        refine lv_aload_n hx hb dX14_verdict_86 rfl (lv_at hl 0 rfl) ?_
        refine lv_aload_n hx hb dX14_verdict_87 rfl (lv_at hl 0 rfl) ?_
        refine j7_read hx hb hown hK (C := RX14) (T := TX14) (N := 74) rfl hly_16_71 hlk_151 (hh.at 0 rfl) dX14_verdict_88 ?_
        refine lv_iload_n hx hb dX14_verdict_91 rfl (lv_at hl 1 rfl) ?_
        refine va_calli (A0 := jA base) (H0 := s.heap) (va_runV (As := [.ref td, .int a1]) (rest := []) ⟨hx, hb, hml, hown, hts⟩ (uX14_costOf l dC dI ca base B hB hAp hB14 hB15 hB16 hB101 hB155 hB156 hB157 hB166 hB167 hB190 hB191 hB192 G0 s.heap r0 td a1 yb ye ps.toInt fb fe) (cwV 2 hts (jgV (jWr_90 _ (List.mem_of_getElem? (i := 23) rfl)) (jWr_91 _ (List.mem_of_getElem? (i := 0) rfl)) (jWr_91 _ (List.mem_of_getElem? (i := 1) rfl)) (jWr_1 _ (List.mem_of_getElem? (i := 5) rfl)) (jWr_91 _ (List.mem_of_getElem? (i := 2) rfl))) rfl rfl rfl (by decide +kernel) ⟨by rw [← hR]; exact Nat.le_of_ble_eq_true rfl, by rw [← hR]; exact Nat.le_of_ble_eq_true rfl⟩) ⟨fun a U g mk q => by obtain ⟨q0, q1, q2, qK, q10, q11, q12, q13, q14, q15, q16⟩ := q; exact ⟨q0, q1, q2, jG.calling g mk a qK, q10, q11, q12, q13, q14, q15, q16⟩, hh.recv (C := RX14) (T := TX14) (N := 74) hB16 rfl (by decide) hg_r0 hK, fun U hU hW => ⟨rfl, hU, hh.2.1, hG.step hW hU hh.1, hg_td, hg_r0, hg_yb, hg_ye, (hh.2.2.1.sub (L1 := [(td, 14, 6, .ref yb), (td, 14, 7, .ref ye)]) [1, 2] rfl), (hh.2.2.2.2.2.2.2.1.sub (L1 := [(yb, 190, 40, ca 1, fb), (ye, 191, 40, ca 1, fe)]) [0, 1] rfl), ⟨(by first | assumption | exact hp0 | omega), (by first | omega | rfl | assumption | exact hp0), (by first | omega | rfl | assumption | exact hp0), (by first | omega | rfl | assumption | exact hp0)⟩⟩⟩ rfl rfl hl.1 rfl (lv_room (Nat.le_of_ble_eq_true rfl)) dX14_verdict_92 ⟨Nat.zero_le _, Nat.zero_le _⟩) hh.1 (fun q _ h => h) (fun q h => h) (fun r_11 u_10 t_10 H_10 locs_10 ht_10 hvm_10 hr_11 hb_10 hz_10 hk_10 hS_10 => ?_)
        rw [ht_10] at hb_10
        obtain ⟨hb_101, hb_102, hb_103, hb_104, hb_105⟩ := hb_10
        have hh_10 : jSt (dC, dI) B base G0 G0 EX14_verdict s.heap 0 0 [(r0, 16, 71, .ref td), (td, 14, 6, .ref yb), (td, 14, 7, .ref ye), (td, 14, 5, .int ps)] [(yb, 190, 40, ca 1, fb), (ye, 191, 40, ca 1, fe)] [] H_10 locs_10 := ((hh.call hb_101 hb_102 hb_103 hb_104 hS_10 rfl (L1 := [(r0, 16, 71, .ref td), (td, 14, 6, .ref yb), (td, 14, 7, .ref ye), (td, 14, 5, .int ps)]) [0, 1, 2, 3] rfl rfl (M1 := [(yb, 190, 40, ca 1, fb), (ye, 191, 40, ca 1, fe)]) [0, 1] rfl rfl (I1 := []) [] rfl rfl).more hb_105)
        clear hh ht_10 hvm_10 hz_10 hk_10 hS_10 hb_101 hb_102 hb_103 hb_104 hb_105
        rw [hQ]
        exact W.iret (v := r_11) hx hb hr (fun t ht hW => ⟨⟨r_11, (), rfl, trivial, hh_10.rt (M1 := []) [] rfl ht⟩, by rw [ht]; try exact hh_10.1.1, fun q h9 hq => by rw [ht]; try exact hh_10.1.2.1 q h9 hq⟩) hh_10.1.2.2 dX14_verdict_95
      · refine lv_tableIn (off := 78) (tgt := 96) hx hb dX14_verdict_18 (by omega) (by omega) (by rw [c_3]; rfl) (by decide) ?_
        refine lv_aload_n hx hb dX14_verdict_96 rfl (lv_at hl 0 rfl) ?_
        obtain ⟨v_12, hv_12, hh_13⟩ := hh.pin (C := RX14) (T := TX14) (N := 74) hB16 rfl (by decide) hg_r0 (i := 72) (by decide) rfl
        clear hh
        obtain ⟨toldGoals_14, rfl, hg_toldGoals_14⟩ := hv_12
        refine j7_read hx hb hown hK (C := RX14) (T := TX14) (N := 74) rfl hly_16_72 hlk_154 (hh_13.at 0 rfl) dX14_verdict_97 ?_
        refine lv_iload_n hx hb dX14_verdict_100 rfl (lv_at hl 1 rfl) ?_
        refine j7_iald hx hb hK hh_13 hB101 1 rfl (by decide) hg_toldGoals_14 (x := a1.toInt) (rfl) (by omega) dX14_verdict_101 (fun z_15 (hz_15 : True) => ?_)
        rw [hQ]
        exact W.iret (v := z_15) hx hb hr (fun t ht hW => ⟨⟨z_15, (), rfl, trivial, hh_13.rt (M1 := []) [] rfl ht⟩, by rw [ht]; try exact hh_13.1.1, fun q h9 hq => by rw [ht]; try exact hh_13.1.2.1 q h9 hq⟩) hh_13.1.2.2 dX14_verdict_102
      · refine lv_tableIn (off := 85) (tgt := 103) hx hb dX14_verdict_18 (by omega) (by omega) (by rw [c_3]; rfl) (by decide) ?_
        refine lv_aload_n hx hb dX14_verdict_103 rfl (lv_at hl 0 rfl) ?_
        obtain ⟨v_16, hv_16, hh_17⟩ := hh.pin (C := RX14) (T := TX14) (N := 74) hB16 rfl (by decide) hg_r0 (i := 73) (by decide) rfl
        clear hh
        obtain ⟨toldFacts_18, rfl, hg_toldFacts_18⟩ := hv_16
        refine j7_read hx hb hown hK (C := RX14) (T := TX14) (N := 74) rfl hly_16_73 hlk_157 (hh_17.at 0 rfl) dX14_verdict_104 ?_
        refine lv_iload_n hx hb dX14_verdict_107 rfl (lv_at hl 1 rfl) ?_
        refine j7_iald hx hb hK hh_17 hB101 1 rfl (by decide) hg_toldFacts_18 (x := a1.toInt) (rfl) (by omega) dX14_verdict_108 (fun z_19 (hz_19 : True) => ?_)
        rw [hQ]
        exact W.iret (v := z_19) hx hb hr (fun t ht hW => ⟨⟨z_19, (), rfl, trivial, hh_17.rt (M1 := []) [] rfl ht⟩, by rw [ht]; try exact hh_17.1.1, fun q h9 hq => by rw [ht]; try exact hh_17.1.2.1 q h9 hq⟩) hh_17.1.2.2 dX14_verdict_109
    · skip
      have c_2' : a1.toInt ≥ ps.toInt := jb_lt_n (rfl) (rfl) c_2
      refine lv_iconst (v := (-1)) hx hb dX14_verdict_15 (by decide) ?_
      rw [hQ]
      exact W.iret (v := (-1)) hx hb hr (fun t ht hW => ⟨⟨(-1), (), rfl, trivial, hh.rt (M1 := []) [] rfl ht⟩, by rw [ht]; try exact hh.1.1, fun q h9 hq => by rw [ht]; try exact hh.1.2.1 q h9 hq⟩) hh.1.2.2 dX14_verdict_16
