section
theorem dX5_intro_0 : decode cX5_intro 0 = .ok (.aload_n 0, 1) := by decide +kernel
theorem dX5_intro_1 : decode cX5_intro 1 = .ok (.getfield 23, 3) := by decide +kernel
theorem dX5_intro_4 : decode cX5_intro 4 = .ok (.getfield 93, 3) := by decide +kernel
theorem dX5_intro_7 : decode cX5_intro 7 = .ok (.iconst 0, 1) := by decide +kernel
theorem dX5_intro_8 : decode cX5_intro 8 = .ok (.iaload, 1) := by decide +kernel
theorem dX5_intro_9 : decode cX5_intro 9 = .ok (.istore 4, 2) := by decide +kernel
theorem dX5_intro_11 : decode cX5_intro 11 = .ok (.aload_n 1, 1) := by decide +kernel
theorem dX5_intro_12 : decode cX5_intro 12 = .ok (.getfield 190, 3) := by decide +kernel
theorem dX5_intro_15 : decode cX5_intro 15 = .ok (.astore 5, 2) := by decide +kernel
theorem dX5_intro_17 : decode cX5_intro 17 = .ok (.iload_n 2, 1) := by decide +kernel
theorem dX5_intro_18 : decode cX5_intro 18 = .ok (.iconst 1, 1) := by decide +kernel
theorem dX5_intro_19 : decode cX5_intro 19 = .ok (.if_icmp .ne 30, 3) := by decide +kernel
theorem dX5_intro_22 : decode cX5_intro 22 = .ok (.aload_n 0, 1) := by decide +kernel
theorem dX5_intro_23 : decode cX5_intro 23 = .ok (.aload_n 1, 1) := by decide +kernel
theorem dX5_intro_24 : decode cX5_intro 24 = .ok (.iload 4, 2) := by decide +kernel
theorem dX5_intro_26 : decode cX5_intro 26 = .ok (.aload 5, 2) := by decide +kernel
theorem dX5_intro_28 : decode cX5_intro 28 = .ok (.iconst 1, 1) := by decide +kernel
theorem dX5_intro_29 : decode cX5_intro 29 = .ok (.iload_n 3, 1) := by decide +kernel
theorem dX5_intro_30 : decode cX5_intro 30 = .ok (.invokestatic 241, 3) := by decide +kernel
theorem dX5_intro_33 : decode cX5_intro 33 = .ok (.aload 5, 2) := by decide +kernel
theorem dX5_intro_35 : decode cX5_intro 35 = .ok (.iload_n 3, 1) := by decide +kernel
theorem dX5_intro_36 : decode cX5_intro 36 = .ok (.aload 5, 2) := by decide +kernel
theorem dX5_intro_38 : decode cX5_intro 38 = .ok (.arraylength, 1) := by decide +kernel
theorem dX5_intro_39 : decode cX5_intro 39 = .ok (.invokestatic 241, 3) := by decide +kernel
theorem dX5_intro_42 : decode cX5_intro 42 = .ok (.invokevirtual 245, 3) := by decide +kernel
theorem dX5_intro_45 : decode cX5_intro 45 = .ok (.invokevirtual 225, 3) := by decide +kernel
theorem dX5_intro_48 : decode cX5_intro 48 = .ok (.ireturn, 1) := by decide +kernel
theorem dX5_intro_49 : decode cX5_intro 49 = .ok (.iload_n 2, 1) := by decide +kernel
theorem dX5_intro_50 : decode cX5_intro 50 = .ok (.iconst 5, 1) := by decide +kernel
theorem dX5_intro_51 : decode cX5_intro 51 = .ok (.if_icmp .ne 29, 3) := by decide +kernel
theorem dX5_intro_54 : decode cX5_intro 54 = .ok (.aload_n 0, 1) := by decide +kernel
theorem dX5_intro_55 : decode cX5_intro 55 = .ok (.aload_n 1, 1) := by decide +kernel
theorem dX5_intro_56 : decode cX5_intro 56 = .ok (.iload 4, 2) := by decide +kernel
theorem dX5_intro_58 : decode cX5_intro 58 = .ok (.aload_n 0, 1) := by decide +kernel
theorem dX5_intro_59 : decode cX5_intro 59 = .ok (.aload 5, 2) := by decide +kernel
theorem dX5_intro_61 : decode cX5_intro 61 = .ok (.aload_n 0, 1) := by decide +kernel
theorem dX5_intro_62 : decode cX5_intro 62 = .ok (.iload 4, 2) := by decide +kernel
theorem dX5_intro_64 : decode cX5_intro 64 = .ok (.invokevirtual 249, 3) := by decide +kernel
theorem dX5_intro_67 : decode cX5_intro 67 = .ok (.iconst 1, 1) := by decide +kernel
theorem dX5_intro_68 : decode cX5_intro 68 = .ok (.invokevirtual 217, 3) := by decide +kernel
theorem dX5_intro_71 : decode cX5_intro 71 = .ok (.invokevirtual 253, 3) := by decide +kernel
theorem dX5_intro_74 : decode cX5_intro 74 = .ok (.invokevirtual 225, 3) := by decide +kernel
theorem dX5_intro_77 : decode cX5_intro 77 = .ok (.goto 5, 3) := by decide +kernel
theorem dX5_intro_80 : decode cX5_intro 80 = .ok (.bipush 8, 2) := by decide +kernel
theorem dX5_intro_82 : decode cX5_intro 82 = .ok (.ireturn, 1) := by decide +kernel
theorem dX5_addSide_0 : decode cX5_addSide 0 = .ok (.iload_n 2, 1) := by decide +kernel
theorem dX5_addSide_1 : decode cX5_addSide 1 = .ok (.ifCond .eq 24, 3) := by decide +kernel
theorem dX5_addSide_4 : decode cX5_addSide 4 = .ok (.aload_n 0, 1) := by decide +kernel
theorem dX5_addSide_5 : decode cX5_addSide 5 = .ok (.aload_n 1, 1) := by decide +kernel
theorem dX5_addSide_6 : decode cX5_addSide 6 = .ok (.aload_n 1, 1) := by decide +kernel
theorem dX5_addSide_7 : decode cX5_addSide 7 = .ok (.getfield 190, 3) := by decide +kernel
theorem dX5_addSide_10 : decode cX5_addSide 10 = .ok (.iload_n 3, 1) := by decide +kernel
theorem dX5_addSide_11 : decode cX5_addSide 11 = .ok (.iload 4, 2) := by decide +kernel
theorem dX5_addSide_13 : decode cX5_addSide 13 = .ok (.invokestatic 241, 3) := by decide +kernel
theorem dX5_addSide_16 : decode cX5_addSide 16 = .ok (.invokevirtual 221, 3) := by decide +kernel
theorem dX5_addSide_19 : decode cX5_addSide 19 = .ok (.invokevirtual 225, 3) := by decide +kernel
theorem dX5_addSide_22 : decode cX5_addSide 22 = .ok (.goto 5, 3) := by decide +kernel
theorem dX5_addSide_25 : decode cX5_addSide 25 = .ok (.bipush 8, 2) := by decide +kernel
theorem dX5_addSide_27 : decode cX5_addSide 27 = .ok (.ireturn, 1) := by decide +kernel
theorem dX5_premisesFor_0 : decode cX5_premisesFor 0 = .ok (.aload_n 1, 1) := by decide +kernel
theorem dX5_premisesFor_1 : decode cX5_premisesFor 1 = .ok (.invokestatic 257, 3) := by decide +kernel
theorem dX5_premisesFor_4 : decode cX5_premisesFor 4 = .ok (.istore_n 3, 1) := by decide +kernel
theorem dX5_premisesFor_5 : decode cX5_premisesFor 5 = .ok (.iload_n 3, 1) := by decide +kernel
theorem dX5_premisesFor_6 : decode cX5_premisesFor 6 = .ok (.istore 4, 2) := by decide +kernel
theorem dX5_premisesFor_8 : decode cX5_premisesFor 8 = .ok (.iconst 0, 1) := by decide +kernel
theorem dX5_premisesFor_9 : decode cX5_premisesFor 9 = .ok (.istore 5, 2) := by decide +kernel
theorem dX5_premisesFor_11 : decode cX5_premisesFor 11 = .ok (.iload 5, 2) := by decide +kernel
theorem dX5_premisesFor_13 : decode cX5_premisesFor 13 = .ok (.bipush 80, 2) := by decide +kernel
theorem dX5_premisesFor_15 : decode cX5_premisesFor 15 = .ok (.if_icmp .ge 56, 3) := by decide +kernel
theorem dX5_premisesFor_18 : decode cX5_premisesFor 18 = .ok (.iload 4, 2) := by decide +kernel
theorem dX5_premisesFor_20 : decode cX5_premisesFor 20 = .ok (.aload_n 1, 1) := by decide +kernel
theorem dX5_premisesFor_21 : decode cX5_premisesFor 21 = .ok (.arraylength, 1) := by decide +kernel
theorem dX5_premisesFor_22 : decode cX5_premisesFor 22 = .ok (.if_icmp .ge 49, 3) := by decide +kernel
theorem dX5_premisesFor_25 : decode cX5_premisesFor 25 = .ok (.aload_n 0, 1) := by decide +kernel
theorem dX5_premisesFor_26 : decode cX5_premisesFor 26 = .ok (.aload_n 1, 1) := by decide +kernel
theorem dX5_premisesFor_27 : decode cX5_premisesFor 27 = .ok (.iload 4, 2) := by decide +kernel
theorem dX5_premisesFor_29 : decode cX5_premisesFor 29 = .ok (.iload_n 3, 1) := by decide +kernel
theorem dX5_premisesFor_30 : decode cX5_premisesFor 30 = .ok (.aload_n 2, 1) := by decide +kernel
theorem dX5_premisesFor_31 : decode cX5_premisesFor 31 = .ok (.invokevirtual 261, 3) := by decide +kernel
theorem dX5_premisesFor_34 : decode cX5_premisesFor 34 = .ok (.ifCond .eq 6, 3) := by decide +kernel
theorem dX5_premisesFor_37 : decode cX5_premisesFor 37 = .ok (.iload 5, 2) := by decide +kernel
theorem dX5_premisesFor_39 : decode cX5_premisesFor 39 = .ok (.ireturn, 1) := by decide +kernel
theorem dX5_premisesFor_40 : decode cX5_premisesFor 40 = .ok (.aload_n 1, 1) := by decide +kernel
theorem dX5_premisesFor_41 : decode cX5_premisesFor 41 = .ok (.iload 4, 2) := by decide +kernel
theorem dX5_premisesFor_43 : decode cX5_premisesFor 43 = .ok (.iaload, 1) := by decide +kernel
theorem dX5_premisesFor_44 : decode cX5_premisesFor 44 = .ok (.bipush 15, 2) := by decide +kernel
theorem dX5_premisesFor_46 : decode cX5_premisesFor 46 = .ok (.iand, 1) := by decide +kernel
theorem dX5_premisesFor_47 : decode cX5_premisesFor 47 = .ok (.iconst 1, 1) := by decide +kernel
theorem dX5_premisesFor_48 : decode cX5_premisesFor 48 = .ok (.if_icmp .eq 5, 3) := by decide +kernel
theorem dX5_premisesFor_51 : decode cX5_premisesFor 51 = .ok (.iconst (-1), 1) := by decide +kernel
theorem dX5_premisesFor_52 : decode cX5_premisesFor 52 = .ok (.ireturn, 1) := by decide +kernel
theorem dX5_premisesFor_53 : decode cX5_premisesFor 53 = .ok (.aload_n 1, 1) := by decide +kernel
theorem dX5_premisesFor_54 : decode cX5_premisesFor 54 = .ok (.iload 4, 2) := by decide +kernel
theorem dX5_premisesFor_56 : decode cX5_premisesFor 56 = .ok (.iconst 1, 1) := by decide +kernel
theorem dX5_premisesFor_57 : decode cX5_premisesFor 57 = .ok (.iadd, 1) := by decide +kernel
theorem dX5_premisesFor_58 : decode cX5_premisesFor 58 = .ok (.aload_n 1, 1) := by decide +kernel
theorem dX5_premisesFor_59 : decode cX5_premisesFor 59 = .ok (.arraylength, 1) := by decide +kernel
theorem dX5_premisesFor_60 : decode cX5_premisesFor 60 = .ok (.invokestatic 183, 3) := by decide +kernel
theorem dX5_premisesFor_63 : decode cX5_premisesFor 63 = .ok (.istore 4, 2) := by decide +kernel
theorem dX5_premisesFor_65 : decode cX5_premisesFor 65 = .ok (.iinc 5 1, 3) := by decide +kernel
theorem dX5_premisesFor_68 : decode cX5_premisesFor 68 = .ok (.goto (-57), 3) := by decide +kernel
theorem dX5_premisesFor_71 : decode cX5_premisesFor 71 = .ok (.iconst (-1), 1) := by decide +kernel
theorem dX5_premisesFor_72 : decode cX5_premisesFor 72 = .ok (.ireturn, 1) := by decide +kernel
theorem dX5_addPremises_0 : decode cX5_addPremises 0 = .ok (.iload_n 3, 1) := by decide +kernel
theorem dX5_addPremises_1 : decode cX5_addPremises 1 = .ok (.bipush 6, 2) := by decide +kernel
theorem dX5_addPremises_3 : decode cX5_addPremises 3 = .ok (.if_icmp .le 6, 3) := by decide +kernel
theorem dX5_addPremises_6 : decode cX5_addPremises 6 = .ok (.bipush 9, 2) := by decide +kernel
theorem dX5_addPremises_8 : decode cX5_addPremises 8 = .ok (.ireturn, 1) := by decide +kernel
theorem dX5_addPremises_9 : decode cX5_addPremises 9 = .ok (.aload_n 2, 1) := by decide +kernel
theorem dX5_addPremises_10 : decode cX5_addPremises 10 = .ok (.invokestatic 257, 3) := by decide +kernel
theorem dX5_addPremises_13 : decode cX5_addPremises 13 = .ok (.istore 4, 2) := by decide +kernel
theorem dX5_addPremises_15 : decode cX5_addPremises 15 = .ok (.iload 4, 2) := by decide +kernel
theorem dX5_addPremises_17 : decode cX5_addPremises 17 = .ok (.istore 5, 2) := by decide +kernel
theorem dX5_addPremises_19 : decode cX5_addPremises 19 = .ok (.iconst 0, 1) := by decide +kernel
theorem dX5_addPremises_20 : decode cX5_addPremises 20 = .ok (.istore 6, 2) := by decide +kernel
theorem dX5_addPremises_22 : decode cX5_addPremises 22 = .ok (.iload 6, 2) := by decide +kernel
theorem dX5_addPremises_24 : decode cX5_addPremises 24 = .ok (.iload_n 3, 1) := by decide +kernel
theorem dX5_addPremises_25 : decode cX5_addPremises 25 = .ok (.if_icmp .ge 47, 3) := by decide +kernel
theorem dX5_addPremises_28 : decode cX5_addPremises 28 = .ok (.aload_n 2, 1) := by decide +kernel
theorem dX5_addPremises_29 : decode cX5_addPremises 29 = .ok (.iload 5, 2) := by decide +kernel
theorem dX5_addPremises_31 : decode cX5_addPremises 31 = .ok (.iconst 1, 1) := by decide +kernel
theorem dX5_addPremises_32 : decode cX5_addPremises 32 = .ok (.iadd, 1) := by decide +kernel
theorem dX5_addPremises_33 : decode cX5_addPremises 33 = .ok (.aload_n 2, 1) := by decide +kernel
theorem dX5_addPremises_34 : decode cX5_addPremises 34 = .ok (.arraylength, 1) := by decide +kernel
theorem dX5_addPremises_35 : decode cX5_addPremises 35 = .ok (.invokestatic 183, 3) := by decide +kernel
theorem dX5_addPremises_38 : decode cX5_addPremises 38 = .ok (.istore 7, 2) := by decide +kernel
theorem dX5_addPremises_40 : decode cX5_addPremises 40 = .ok (.aload_n 0, 1) := by decide +kernel
theorem dX5_addPremises_41 : decode cX5_addPremises 41 = .ok (.aload_n 1, 1) := by decide +kernel
theorem dX5_addPremises_42 : decode cX5_addPremises 42 = .ok (.aload_n 0, 1) := by decide +kernel
theorem dX5_addPremises_43 : decode cX5_addPremises 43 = .ok (.aload_n 2, 1) := by decide +kernel
theorem dX5_addPremises_44 : decode cX5_addPremises 44 = .ok (.iload 5, 2) := by decide +kernel
theorem dX5_addPremises_46 : decode cX5_addPremises 46 = .ok (.iconst 1, 1) := by decide +kernel
theorem dX5_addPremises_47 : decode cX5_addPremises 47 = .ok (.iadd, 1) := by decide +kernel
theorem dX5_addPremises_48 : decode cX5_addPremises 48 = .ok (.iload 7, 2) := by decide +kernel
theorem dX5_addPremises_50 : decode cX5_addPremises 50 = .ok (.iload 4, 2) := by decide +kernel
theorem dX5_addPremises_52 : decode cX5_addPremises 52 = .ok (.invokevirtual 265, 3) := by decide +kernel
theorem dX5_addPremises_55 : decode cX5_addPremises 55 = .ok (.invokevirtual 221, 3) := by decide +kernel
theorem dX5_addPremises_58 : decode cX5_addPremises 58 = .ok (.invokevirtual 225, 3) := by decide +kernel
theorem dX5_addPremises_61 : decode cX5_addPremises 61 = .ok (.pop, 1) := by decide +kernel
theorem dX5_addPremises_62 : decode cX5_addPremises 62 = .ok (.iload 7, 2) := by decide +kernel
theorem dX5_addPremises_64 : decode cX5_addPremises 64 = .ok (.istore 5, 2) := by decide +kernel
theorem dX5_addPremises_66 : decode cX5_addPremises 66 = .ok (.iinc 6 1, 3) := by decide +kernel
theorem dX5_addPremises_69 : decode cX5_addPremises 69 = .ok (.goto (-47), 3) := by decide +kernel
theorem dX5_addPremises_72 : decode cX5_addPremises 72 = .ok (.iconst 0, 1) := by decide +kernel
theorem dX5_addPremises_73 : decode cX5_addPremises 73 = .ok (.ireturn, 1) := by decide +kernel
theorem dX5_cases_0 : decode cX5_cases 0 = .ok (.aload_n 1, 1) := by decide +kernel
theorem dX5_cases_1 : decode cX5_cases 1 = .ok (.getfield 164, 3) := by decide +kernel
theorem dX5_cases_4 : decode cX5_cases 4 = .ok (.aload_n 0, 1) := by decide +kernel
theorem dX5_cases_5 : decode cX5_cases 5 = .ok (.getfield 23, 3) := by decide +kernel
theorem dX5_cases_8 : decode cX5_cases 8 = .ok (.getfield 93, 3) := by decide +kernel
theorem dX5_cases_11 : decode cX5_cases 11 = .ok (.iconst 0, 1) := by decide +kernel
theorem dX5_cases_12 : decode cX5_cases 12 = .ok (.iaload, 1) := by decide +kernel
theorem dX5_cases_13 : decode cX5_cases 13 = .ok (.invokestatic 166, 3) := by decide +kernel
theorem dX5_cases_16 : decode cX5_cases 16 = .ok (.istore_n 2, 1) := by decide +kernel
theorem dX5_cases_17 : decode cX5_cases 17 = .ok (.iload_n 2, 1) := by decide +kernel
theorem dX5_cases_18 : decode cX5_cases 18 = .ok (.ifCond .ge 5, 3) := by decide +kernel
theorem dX5_cases_21 : decode cX5_cases 21 = .ok (.iconst 5, 1) := by decide +kernel
theorem dX5_cases_22 : decode cX5_cases 22 = .ok (.ireturn, 1) := by decide +kernel
theorem dX5_cases_23 : decode cX5_cases 23 = .ok (.aload_n 0, 1) := by decide +kernel
theorem dX5_cases_24 : decode cX5_cases 24 = .ok (.getfield 23, 3) := by decide +kernel
theorem dX5_cases_27 : decode cX5_cases 27 = .ok (.getfield 93, 3) := by decide +kernel
theorem dX5_cases_30 : decode cX5_cases 30 = .ok (.iconst 1, 1) := by decide +kernel
theorem dX5_cases_31 : decode cX5_cases 31 = .ok (.iaload, 1) := by decide +kernel
theorem dX5_cases_32 : decode cX5_cases 32 = .ok (.istore_n 3, 1) := by decide +kernel
theorem dX5_cases_33 : decode cX5_cases 33 = .ok (.aload_n 0, 1) := by decide +kernel
theorem dX5_cases_34 : decode cX5_cases 34 = .ok (.getfield 23, 3) := by decide +kernel
theorem dX5_cases_37 : decode cX5_cases 37 = .ok (.getfield 93, 3) := by decide +kernel
theorem dX5_cases_40 : decode cX5_cases 40 = .ok (.iconst 2, 1) := by decide +kernel
theorem dX5_cases_41 : decode cX5_cases 41 = .ok (.iaload, 1) := by decide +kernel
theorem dX5_cases_42 : decode cX5_cases 42 = .ok (.istore 4, 2) := by decide +kernel
theorem dX5_cases_44 : decode cX5_cases 44 = .ok (.aload_n 1, 1) := by decide +kernel
theorem dX5_cases_45 : decode cX5_cases 45 = .ok (.getfield 180, 3) := by decide +kernel
theorem dX5_cases_48 : decode cX5_cases 48 = .ok (.iload_n 2, 1) := by decide +kernel
theorem dX5_cases_49 : decode cX5_cases 49 = .ok (.aaload, 1) := by decide +kernel
theorem dX5_cases_50 : decode cX5_cases 50 = .ok (.astore 5, 2) := by decide +kernel
theorem dX5_cases_52 : decode cX5_cases 52 = .ok (.aload 5, 2) := by decide +kernel
theorem dX5_cases_54 : decode cX5_cases 54 = .ok (.arraylength, 1) := by decide +kernel
theorem dX5_cases_55 : decode cX5_cases 55 = .ok (.ifCond .le 13, 3) := by decide +kernel
theorem dX5_cases_58 : decode cX5_cases 58 = .ok (.aload 5, 2) := by decide +kernel
theorem dX5_cases_60 : decode cX5_cases 60 = .ok (.iconst 0, 1) := by decide +kernel
theorem dX5_cases_61 : decode cX5_cases 61 = .ok (.iaload, 1) := by decide +kernel
theorem dX5_cases_62 : decode cX5_cases 62 = .ok (.bipush 15, 2) := by decide +kernel
theorem dX5_cases_64 : decode cX5_cases 64 = .ok (.iand, 1) := by decide +kernel
theorem dX5_cases_65 : decode cX5_cases 65 = .ok (.goto 4, 3) := by decide +kernel
theorem dX5_cases_68 : decode cX5_cases 68 = .ok (.iconst 0, 1) := by decide +kernel
theorem dX5_cases_69 : decode cX5_cases 69 = .ok (.istore 6, 2) := by decide +kernel
theorem dX5_cases_71 : decode cX5_cases 71 = .ok (.aload 5, 2) := by decide +kernel
theorem dX5_cases_73 : decode cX5_cases 73 = .ok (.iconst 1, 1) := by decide +kernel
theorem dX5_cases_74 : decode cX5_cases 74 = .ok (.aload 5, 2) := by decide +kernel
theorem dX5_cases_76 : decode cX5_cases 76 = .ok (.arraylength, 1) := by decide +kernel
theorem dX5_cases_77 : decode cX5_cases 77 = .ok (.invokestatic 183, 3) := by decide +kernel
theorem dX5_cases_80 : decode cX5_cases 80 = .ok (.istore 7, 2) := by decide +kernel
theorem dX5_cases_82 : decode cX5_cases 82 = .ok (.aload 5, 2) := by decide +kernel
theorem dX5_cases_84 : decode cX5_cases 84 = .ok (.iconst 1, 1) := by decide +kernel
theorem dX5_cases_85 : decode cX5_cases 85 = .ok (.iload 7, 2) := by decide +kernel
theorem dX5_cases_87 : decode cX5_cases 87 = .ok (.invokestatic 241, 3) := by decide +kernel
theorem dX5_cases_90 : decode cX5_cases 90 = .ok (.astore 8, 2) := by decide +kernel
theorem dX5_cases_92 : decode cX5_cases 92 = .ok (.aload 5, 2) := by decide +kernel
theorem dX5_cases_94 : decode cX5_cases 94 = .ok (.iload 7, 2) := by decide +kernel
theorem dX5_cases_96 : decode cX5_cases 96 = .ok (.aload 5, 2) := by decide +kernel
theorem dX5_cases_98 : decode cX5_cases 98 = .ok (.arraylength, 1) := by decide +kernel
theorem dX5_cases_99 : decode cX5_cases 99 = .ok (.invokestatic 241, 3) := by decide +kernel
theorem dX5_cases_102 : decode cX5_cases 102 = .ok (.astore 9, 2) := by decide +kernel
theorem dX5_cases_104 : decode cX5_cases 104 = .ok (.aload_n 1, 1) := by decide +kernel
theorem dX5_cases_105 : decode cX5_cases 105 = .ok (.iload_n 2, 1) := by decide +kernel
theorem dX5_cases_106 : decode cX5_cases 106 = .ok (.invokevirtual 269, 3) := by decide +kernel
theorem dX5_cases_109 : decode cX5_cases 109 = .ok (.astore 10, 2) := by decide +kernel
theorem dX5_cases_111 : decode cX5_cases 111 = .ok (.iload 6, 2) := by decide +kernel
theorem dX5_cases_113 : decode cX5_cases 113 = .ok (.iconst 2, 1) := by decide +kernel
theorem dX5_cases_114 : decode cX5_cases 114 = .ok (.if_icmp .ne 31, 3) := by decide +kernel
theorem dX5_cases_117 : decode cX5_cases 117 = .ok (.aload_n 0, 1) := by decide +kernel
theorem dX5_cases_118 : decode cX5_cases 118 = .ok (.aload 10, 2) := by decide +kernel
theorem dX5_cases_120 : decode cX5_cases 120 = .ok (.iload_n 3, 1) := by decide +kernel
theorem dX5_cases_121 : decode cX5_cases 121 = .ok (.aload 8, 2) := by decide +kernel
theorem dX5_cases_123 : decode cX5_cases 123 = .ok (.aload_n 1, 1) := by decide +kernel
theorem dX5_cases_124 : decode cX5_cases 124 = .ok (.getfield 190, 3) := by decide +kernel
theorem dX5_cases_127 : decode cX5_cases 127 = .ok (.invokevirtual 245, 3) := by decide +kernel
theorem dX5_cases_130 : decode cX5_cases 130 = .ok (.iload 4, 2) := by decide +kernel
theorem dX5_cases_132 : decode cX5_cases 132 = .ok (.aload 9, 2) := by decide +kernel
theorem dX5_cases_134 : decode cX5_cases 134 = .ok (.aload_n 1, 1) := by decide +kernel
theorem dX5_cases_135 : decode cX5_cases 135 = .ok (.getfield 190, 3) := by decide +kernel
theorem dX5_cases_138 : decode cX5_cases 138 = .ok (.invokevirtual 245, 3) := by decide +kernel
theorem dX5_cases_141 : decode cX5_cases 141 = .ok (.invokevirtual 225, 3) := by decide +kernel
theorem dX5_cases_144 : decode cX5_cases 144 = .ok (.ireturn, 1) := by decide +kernel
theorem dX5_cases_145 : decode cX5_cases 145 = .ok (.iload 6, 2) := by decide +kernel
theorem dX5_cases_147 : decode cX5_cases 147 = .ok (.iconst 3, 1) := by decide +kernel
theorem dX5_cases_148 : decode cX5_cases 148 = .ok (.if_icmp .ne 38, 3) := by decide +kernel
theorem dX5_cases_151 : decode cX5_cases 151 = .ok (.aload_n 0, 1) := by decide +kernel
theorem dX5_cases_152 : decode cX5_cases 152 = .ok (.aload 10, 2) := by decide +kernel
theorem dX5_cases_154 : decode cX5_cases 154 = .ok (.iload_n 3, 1) := by decide +kernel
theorem dX5_cases_155 : decode cX5_cases 155 = .ok (.aload 8, 2) := by decide +kernel
theorem dX5_cases_157 : decode cX5_cases 157 = .ok (.aload_n 1, 1) := by decide +kernel
theorem dX5_cases_158 : decode cX5_cases 158 = .ok (.getfield 190, 3) := by decide +kernel
theorem dX5_cases_161 : decode cX5_cases 161 = .ok (.invokevirtual 245, 3) := by decide +kernel
theorem dX5_cases_164 : decode cX5_cases 164 = .ok (.invokevirtual 225, 3) := by decide +kernel
theorem dX5_cases_167 : decode cX5_cases 167 = .ok (.pop, 1) := by decide +kernel
theorem dX5_cases_168 : decode cX5_cases 168 = .ok (.aload_n 0, 1) := by decide +kernel
theorem dX5_cases_169 : decode cX5_cases 169 = .ok (.aload 10, 2) := by decide +kernel
theorem dX5_cases_171 : decode cX5_cases 171 = .ok (.iload 4, 2) := by decide +kernel
theorem dX5_cases_173 : decode cX5_cases 173 = .ok (.aload 9, 2) := by decide +kernel
theorem dX5_cases_175 : decode cX5_cases 175 = .ok (.aload_n 1, 1) := by decide +kernel
theorem dX5_cases_176 : decode cX5_cases 176 = .ok (.getfield 190, 3) := by decide +kernel
theorem dX5_cases_179 : decode cX5_cases 179 = .ok (.invokevirtual 245, 3) := by decide +kernel
theorem dX5_cases_182 : decode cX5_cases 182 = .ok (.invokevirtual 225, 3) := by decide +kernel
theorem dX5_cases_185 : decode cX5_cases 185 = .ok (.ireturn, 1) := by decide +kernel
theorem dX5_cases_186 : decode cX5_cases 186 = .ok (.iload 6, 2) := by decide +kernel
theorem dX5_cases_188 : decode cX5_cases 188 = .ok (.bipush 6, 2) := by decide +kernel
theorem dX5_cases_190 : decode cX5_cases 190 = .ok (.if_icmp .eq 6, 3) := by decide +kernel
theorem dX5_cases_193 : decode cX5_cases 193 = .ok (.bipush 8, 2) := by decide +kernel
theorem dX5_cases_195 : decode cX5_cases 195 = .ok (.ireturn, 1) := by decide +kernel
theorem dX5_cases_196 : decode cX5_cases 196 = .ok (.aload_n 0, 1) := by decide +kernel
theorem dX5_cases_197 : decode cX5_cases 197 = .ok (.aload 10, 2) := by decide +kernel
theorem dX5_cases_199 : decode cX5_cases 199 = .ok (.iload_n 3, 1) := by decide +kernel
theorem dX5_cases_200 : decode cX5_cases 200 = .ok (.aload_n 1, 1) := by decide +kernel
theorem dX5_cases_201 : decode cX5_cases 201 = .ok (.getfield 190, 3) := by decide +kernel
theorem dX5_cases_204 : decode cX5_cases 204 = .ok (.invokevirtual 253, 3) := by decide +kernel
theorem dX5_cases_207 : decode cX5_cases 207 = .ok (.iload 4, 2) := by decide +kernel
theorem dX5_cases_209 : decode cX5_cases 209 = .ok (.aload_n 0, 1) := by decide +kernel
theorem dX5_cases_210 : decode cX5_cases 210 = .ok (.aload 5, 2) := by decide +kernel
theorem dX5_cases_212 : decode cX5_cases 212 = .ok (.aload_n 0, 1) := by decide +kernel
theorem dX5_cases_213 : decode cX5_cases 213 = .ok (.iload_n 3, 1) := by decide +kernel
theorem dX5_cases_214 : decode cX5_cases 214 = .ok (.invokevirtual 249, 3) := by decide +kernel
theorem dX5_cases_217 : decode cX5_cases 217 = .ok (.iconst 1, 1) := by decide +kernel
theorem dX5_cases_218 : decode cX5_cases 218 = .ok (.invokevirtual 217, 3) := by decide +kernel
theorem dX5_cases_221 : decode cX5_cases 221 = .ok (.aload_n 1, 1) := by decide +kernel
theorem dX5_cases_222 : decode cX5_cases 222 = .ok (.getfield 190, 3) := by decide +kernel
theorem dX5_cases_225 : decode cX5_cases 225 = .ok (.invokevirtual 245, 3) := by decide +kernel
theorem dX5_cases_228 : decode cX5_cases 228 = .ok (.invokevirtual 225, 3) := by decide +kernel
theorem dX5_cases_231 : decode cX5_cases 231 = .ok (.ireturn, 1) := by decide +kernel
theorem dX5_use_0 : decode cX5_use 0 = .ok (.aload_n 2, 1) := by decide +kernel
theorem dX5_use_1 : decode cX5_use 1 = .ok (.ifnull 18, 3) := by decide +kernel
theorem dX5_use_4 : decode cX5_use 4 = .ok (.aload_n 2, 1) := by decide +kernel
theorem dX5_use_5 : decode cX5_use 5 = .ok (.arraylength, 1) := by decide +kernel
theorem dX5_use_6 : decode cX5_use 6 = .ok (.ifCond .eq 13, 3) := by decide +kernel
theorem dX5_use_9 : decode cX5_use 9 = .ok (.aload_n 2, 1) := by decide +kernel
theorem dX5_use_10 : decode cX5_use 10 = .ok (.iconst 0, 1) := by decide +kernel
theorem dX5_use_11 : decode cX5_use 11 = .ok (.iaload, 1) := by decide +kernel
theorem dX5_use_12 : decode cX5_use 12 = .ok (.bipush 15, 2) := by decide +kernel
theorem dX5_use_14 : decode cX5_use 14 = .ok (.iand, 1) := by decide +kernel
theorem dX5_use_15 : decode cX5_use 15 = .ok (.iconst 5, 1) := by decide +kernel
theorem dX5_use_16 : decode cX5_use 16 = .ok (.if_icmp .eq 6, 3) := by decide +kernel
theorem dX5_use_19 : decode cX5_use 19 = .ok (.bipush 8, 2) := by decide +kernel
theorem dX5_use_21 : decode cX5_use 21 = .ok (.ireturn, 1) := by decide +kernel
theorem dX5_use_22 : decode cX5_use 22 = .ok (.aload_n 0, 1) := by decide +kernel
theorem dX5_use_23 : decode cX5_use 23 = .ok (.aload_n 1, 1) := by decide +kernel
theorem dX5_use_24 : decode cX5_use 24 = .ok (.aload_n 0, 1) := by decide +kernel
theorem dX5_use_25 : decode cX5_use 25 = .ok (.getfield 23, 3) := by decide +kernel
theorem dX5_use_28 : decode cX5_use 28 = .ok (.getfield 93, 3) := by decide +kernel
theorem dX5_use_31 : decode cX5_use 31 = .ok (.iconst 1, 1) := by decide +kernel
theorem dX5_use_32 : decode cX5_use 32 = .ok (.iaload, 1) := by decide +kernel
theorem dX5_use_33 : decode cX5_use 33 = .ok (.aload_n 0, 1) := by decide +kernel
theorem dX5_use_34 : decode cX5_use 34 = .ok (.aload_n 2, 1) := by decide +kernel
theorem dX5_use_35 : decode cX5_use 35 = .ok (.aload_n 0, 1) := by decide +kernel
theorem dX5_use_36 : decode cX5_use 36 = .ok (.getfield 23, 3) := by decide +kernel
theorem dX5_use_39 : decode cX5_use 39 = .ok (.getfield 121, 3) := by decide +kernel
theorem dX5_use_42 : decode cX5_use 42 = .ok (.aload_n 0, 1) := by decide +kernel
theorem dX5_use_43 : decode cX5_use 43 = .ok (.getfield 23, 3) := by decide +kernel
theorem dX5_use_46 : decode cX5_use 46 = .ok (.getfield 114, 3) := by decide +kernel
theorem dX5_use_49 : decode cX5_use 49 = .ok (.invokevirtual 217, 3) := by decide +kernel
theorem dX5_use_52 : decode cX5_use 52 = .ok (.aload_n 1, 1) := by decide +kernel
theorem dX5_use_53 : decode cX5_use 53 = .ok (.getfield 190, 3) := by decide +kernel
theorem dX5_use_56 : decode cX5_use 56 = .ok (.invokevirtual 245, 3) := by decide +kernel
theorem dX5_use_59 : decode cX5_use 59 = .ok (.invokevirtual 225, 3) := by decide +kernel
theorem dX5_use_62 : decode cX5_use 62 = .ok (.ireturn, 1) := by decide +kernel
theorem dX5_have_0 : decode cX5_have 0 = .ok (.aload_n 0, 1) := by decide +kernel
theorem dX5_have_1 : decode cX5_have 1 = .ok (.getfield 23, 3) := by decide +kernel
theorem dX5_have_4 : decode cX5_have 4 = .ok (.getfield 114, 3) := by decide +kernel
theorem dX5_have_7 : decode cX5_have 7 = .ok (.bipush 80, 2) := by decide +kernel
theorem dX5_have_9 : decode cX5_have 9 = .ok (.if_icmp .le 6, 3) := by decide +kernel
theorem dX5_have_12 : decode cX5_have 12 = .ok (.bipush 9, 2) := by decide +kernel
theorem dX5_have_14 : decode cX5_have 14 = .ok (.ireturn, 1) := by decide +kernel
theorem dX5_have_15 : decode cX5_have 15 = .ok (.aload_n 0, 1) := by decide +kernel
theorem dX5_have_16 : decode cX5_have 16 = .ok (.getfield 23, 3) := by decide +kernel
theorem dX5_have_19 : decode cX5_have 19 = .ok (.getfield 121, 3) := by decide +kernel
theorem dX5_have_22 : decode cX5_have 22 = .ok (.aload_n 0, 1) := by decide +kernel
theorem dX5_have_23 : decode cX5_have 23 = .ok (.getfield 23, 3) := by decide +kernel
theorem dX5_have_26 : decode cX5_have 26 = .ok (.getfield 114, 3) := by decide +kernel
theorem dX5_have_29 : decode cX5_have 29 = .ok (.invokestatic 124, 3) := by decide +kernel
theorem dX5_have_32 : decode cX5_have 32 = .ok (.astore_n 2, 1) := by decide +kernel
theorem dX5_have_33 : decode cX5_have 33 = .ok (.aload_n 0, 1) := by decide +kernel
theorem dX5_have_34 : decode cX5_have 34 = .ok (.aload_n 1, 1) := by decide +kernel
theorem dX5_have_35 : decode cX5_have 35 = .ok (.aload_n 2, 1) := by decide +kernel
theorem dX5_have_36 : decode cX5_have 36 = .ok (.invokevirtual 221, 3) := by decide +kernel
theorem dX5_have_39 : decode cX5_have 39 = .ok (.invokevirtual 225, 3) := by decide +kernel
theorem dX5_have_42 : decode cX5_have 42 = .ok (.pop, 1) := by decide +kernel
theorem dX5_have_43 : decode cX5_have 43 = .ok (.aload_n 0, 1) := by decide +kernel
theorem dX5_have_44 : decode cX5_have 44 = .ok (.aload_n 1, 1) := by decide +kernel
theorem dX5_have_45 : decode cX5_have 45 = .ok (.aload_n 0, 1) := by decide +kernel
theorem dX5_have_46 : decode cX5_have 46 = .ok (.getfield 23, 3) := by decide +kernel
theorem dX5_have_49 : decode cX5_have 49 = .ok (.getfield 93, 3) := by decide +kernel
theorem dX5_have_52 : decode cX5_have 52 = .ok (.iconst 0, 1) := by decide +kernel
theorem dX5_have_53 : decode cX5_have 53 = .ok (.iaload, 1) := by decide +kernel
theorem dX5_have_54 : decode cX5_have 54 = .ok (.aload_n 2, 1) := by decide +kernel
theorem dX5_have_55 : decode cX5_have 55 = .ok (.aload_n 1, 1) := by decide +kernel
theorem dX5_have_56 : decode cX5_have 56 = .ok (.getfield 190, 3) := by decide +kernel
theorem dX5_have_59 : decode cX5_have 59 = .ok (.invokevirtual 245, 3) := by decide +kernel
theorem dX5_have_62 : decode cX5_have 62 = .ok (.invokevirtual 225, 3) := by decide +kernel
theorem dX5_have_65 : decode cX5_have 65 = .ok (.ireturn, 1) := by decide +kernel
def EX5_addSide : List (Nat × Nat) := [(7, 10), (211, 0)]
def EX5_intro : List (Nat × Nat) := [(7, 5), (7, 10), (101, 0), (211, 0), (280, 0), (290, 0), (291, 0)]
def EX5_use : List (Nat × Nat) := [(7, 5), (7, 10), (101, 0), (211, 0), (290, 0), (291, 0)]
def EX5_useZ : List (Nat × Nat) := [(7, 5), (7, 10), (101, 0), (211, 0), (290, 0), (291, 0)]
def EX5_have : List (Nat × Nat) := [(7, 10), (101, 0), (211, 0)]
def EX5_cases : List (Nat × Nat) := [(7, 5), (7, 10), (101, 0), (211, 0), (280, 0), (290, 0), (291, 0)]
def EX5_premisesFor : List (Nat × Nat) := [(7, 5), (290, 0), (291, 0)]
def EX5_addPremises : List (Nat × Nat) := [(7, 10), (211, 0)]
set_option maxHeartbeats 4000000 in
set_option maxRecDepth 20000 in
theorem uX5_addSide (l : Launch) (dC : Nat → ClassId) (dI : Nat → Nat → Nat) (ca : Nat → ClassId) (base : Nat) (B : jF) (hB : jBok B) (hAp : jAp (dC, dI)) (hB5 : ∀ n G a H, B 5 n G a H ↔ jOb (dC, dI) 5 4 (F5 n G) a H) (hB7 : ∀ n G a H, B 7 n G a H ↔ jOb (dC, dI) 7 11 (F7 n G) a H) (hB101 : ∀ n G a H, B 101 n G a H ↔ jAr (dC, dI) (ca 1) (fun j z => True) n a H) (hB211 : ∀ n G a H, B 211 n G a H ↔ jAq (dC, dI) (ca 7) (jQh) n G a H) (hB280 : ∀ n G a H, B 280 n G a H ↔ jAr (dC, dI) (ca 1) (fun j z => -1 ≤ z.toInt) n a H) (hB313 : ∀ n G a H, B 313 n G a H ↔ jAq (dC, dI) (ca 8) (jQk 280 80) n G a H) (G0 : jT) (H0 : Heap) (r0 : Nat) (r1 : Nat) (a2 : Int32) (a3 : Int32) (a4 : Int32) (n1 : Nat) (pf : Int32) (LC LS : Nat) : Met l yX5_addSide (jw yX5_addSide cX5_addSide 5 (some .int)) ({ frames := 4, cells := LC - H0.size, slots := LS - jTot H0, locals := 129 }) (va_Pc [.ref r0, .ref r1, .int a2, .int a3, .int a4] (fun U => U.heap = H0 ∧ jX B base G0 [] H0 ∧ jG dC dI ca base U ∧ jK2 dC dI ca U ∧ jK5 dC dI ca U ∧ G0 r0 = some (7, 0) ∧ G0 r1 = some (5, n1) ∧ (a2 = 0 ∨ a2 = 1) ∧ jP (dC, dI) G0 H0 [(r0, 7, 10, .int pf)] ∧ jIs (dC, dI) G0 H0 [(jFg, jFr dC dI ca G0 r0)] ∧ H0.size + 2 ≤ LC ∧ jTot H0 + 84 ≤ LS ∧ 0 ≤ pf.toInt ∧ pf.toInt ≤ 100 ∧ n1 % 10 = 1 ∧ 1 ≤ a3.toInt)) (va_Qi (S := Int32 × jT) (fun r u => (pf.toInt ≤ u.1.toInt ∧ u.1.toInt ≤ pf.toInt + 1)) (fun u t => jRa (dC, dI) B base G0 u.2 EX5_addSide H0 (2) (84) [(r0, 7, 10, .int u.1)] t.heap ∧ (jNk [0, 1, 2, 3, 4, 6, 7, 8, 9, 10, 11, 12, 13, 14, 15, 16, 17, 175]) G0 u.2 ∧ jIs (dC, dI) u.2 t.heap [(jFg, jFr dC dI ca u.2 r0)]) (jA base)) (LC - H0.size) (LS - jTot H0) (jA base) := by
  refine Met.ofW (cc := cX5_addSide) (maxL := 5) (ret := (some .int)) (by decide) rfl ?_
  intro p e s m args below meth c s₁ Bd hml hv
  obtain ⟨rfl, hH0, hX, hG, hK2, hK5, hg_r0, hg_r1, hz_a2, hP0, hI0, hLC0, hLS0, hp0, hp1, hp2, hp3⟩ := hv
  have hK := hG.1
  have hx := Bd.exec
  have hb := Bd.bytes
  have hr := Bd.returns
  have hts := atoms_spec (ws := (jw yX5_addSide cX5_addSide 5 (some .int))) Bd.pre
  have htw : ∀ w ∈ jWl, w.before _ s = true := fun w h => hts w (List.mem_cons_of_mem _ h)
  have hown : s.vm.findClass RX5 = some m.cls := findClass_of_methodNamed Bd.named
  have hlocks := Bd.notSynchronized
  obtain ⟨Q, hQ⟩ : ∃ Q, Q = MQ below (va_Qi (S := Int32 × jT) (fun r u => (pf.toInt ≤ u.1.toInt ∧ u.1.toInt ≤ pf.toInt + 1)) (fun u t => jRa (dC, dI) B base G0 u.2 EX5_addSide H0 (2) (84) [(r0, 7, 10, .int u.1)] t.heap ∧ (jNk [0, 1, 2, 3, 4, 6, 7, 8, 9, 10, 11, 12, 13, 14, 15, 16, 17, 175]) G0 u.2 ∧ jIs (dC, dI) u.2 t.heap [(jFg, jFr dC dI ca u.2 r0)]) (jA base)) ([.ref r0, .ref r1, .int a2, .int a3, .int a4] : List Value).toArray s (LC - H0.size) (LS - jTot H0) (jA base) := ⟨_, rfl⟩
  rw [← hQ]
  have hl := lv_entry ([.ref r0, .ref r1, .int a2, .int a3, .int a4]) (n := 5) (Nat.le_of_ble_eq_true rfl)
  rw [lg_entry_eq]
  generalize (lg_sl ([.ref r0, .ref r1, .int a2, .int a3, .int a4]) ++ List.replicate (5 - (lg_sl ([.ref r0, .ref r1, .int a2, .int a3, .int a4])).length) Slot.unset).toArray = ls at hl ⊢
  have hl : lv_has ls 5 [(0, .ref r0), (1, .ref r1), (2, .int a2), (3, .int a3), (4, .int a4)] := hl
  generalize hR : (headSpec (jw yX5_addSide cX5_addSide 5 (some .int)) ({ frames := 4, cells := LC - H0.size, slots := LS - jTot H0, locals := 129 })).room = R
  subst hH0
  have hh : jSt (dC, dI) B base G0 G0 EX5_addSide s.heap 0 0 [(r0, 7, 10, .int pf)] [] [(jFg, jFr dC dI ca G0 r0)] s.heap [] := jSt.start hX hP0 jMc.nil hI0
  clear hX hP0
  have hk0 : (0 : Int32).toInt = 0 := by decide
  have hk1 : (1 : Int32).toInt = 1 := by decide
  have hk8 : (8 : Int32).toInt = 8 := by decide
  have hly_5_3 := htw (u_lay RX3 TX3 3) (jWc_wsX30 _ (u_in_lay (by decide)))
  have hlk_190 := (htw (.fieldLink RX5 190 "ProofServer$Goal" "formula" "[I") (jWr_84 _ (List.mem_of_getElem? (i := 15) rfl)))
  have hrg_a2 := jb_rng a2
  have hrg_a3 := jb_rng a3
  have hrg_a4 := jb_rng a4
  have hbs : base ≤ s.heap.size := Nat.le_of_lt (Nat.lt_of_le_of_lt (hh.ab hg_r0).1 (hh.ab hg_r0).2)
  have hRc : R.cells = LC - s.heap.size := by rw [← hR]; rfl
  have hRs : R.slots = LS - jTot s.heap := by rw [← hR]; rfl
  refine lv_iload_n hx hb dX5_addSide_0 rfl (lv_at hl 2 rfl) ?_
  refine lv_if_eq (tgt := 25) hx hb dX5_addSide_1 (by decide) (fun c_1 => ?_) (fun c_1 => ?_)
  · skip
    have c_1' : a2.toInt = 0 := jb_eq (rfl) ((by decide)) c_1
    refine lv_bipush (v := 8) hx hb dX5_addSide_25 (by decide) ?_
    have hsz_2 := hh.2.2.2.2.2.1
    have htt_2 := hh.2.2.2.2.2.2.1
    refine W.room (fun hrc_2 hrs_2 => ?_)
    refine W.widen (k := LC - s.heap.size) (n := LS - jTot s.heap) (by omega) (by omega) ?_
    rw [hQ]
    exact W.iret (v := 8) hx hb hr (fun t ht hW => ⟨⟨8, (pf, G0), rfl, by (try dsimp only); exact ⟨(by first | omega | rfl | assumption | fail), (by first | omega | rfl | assumption | fail)⟩, ⟨hh.ra (by first | omega | (simp only; omega)) (by first | omega | (simp only; omega)) (M1 := [(r0, 7, 10, .int pf)]) [0] rfl ht, jNk.rf, by rw [ht]; exact hh.2.2.2.2.2.2.2.2.sub (L1 := [(jFg, jFr dC dI ca G0 r0)]) [0] rfl⟩⟩, by rw [ht]; try exact hh.1.1, fun q h9 hq => by rw [ht]; try exact hh.1.2.1 q h9 hq⟩) hh.1.2.2 dX5_addSide_27
  · skip
    have c_1' : a2.toInt ≠ 0 := jb_eq_n (rfl) ((by decide)) c_1
    refine lv_aload_n hx hb dX5_addSide_4 rfl (lv_at hl 0 rfl) ?_
    refine lv_aload_n hx hb dX5_addSide_5 rfl (lv_at hl 1 rfl) ?_
    refine lv_aload_n hx hb dX5_addSide_6 rfl (lv_at hl 1 rfl) ?_
    obtain ⟨v_3, hv_3, hh_4⟩ := hh.pin (C := RX3) (T := TX3) (N := 4) hB5 rfl (by decide) hg_r1 (i := 3) (by decide) rfl
    clear hh
    rcases hv_3 with ⟨rfl, hcv_3⟩ | ⟨formula_5, nformula_5, rfl, hg_formula_5, hn_formula_5, hcv_3, hdv_3⟩
    · exact absurd hcv_3 (by omega)
    refine j7_read hx hb hown hK (C := RX3) (T := TX3) (N := 4) rfl hly_5_3 hlk_190 (hh_4.at 0 rfl) dX5_addSide_7 ?_
    refine lv_iload_n hx hb dX5_addSide_10 rfl (lv_at hl 3 rfl) ?_
    refine lv_iload hx hb dX5_addSide_11 (lv_at hl 4 rfl) ?_
    have hsz_6 := hh_4.2.2.2.2.2.1
    have htt_6 := hh_4.2.2.2.2.2.2.1
    refine W.room (fun hrc_6 hrs_6 => ?_)
    refine j_callx (A0 := jA base) (H0 := s.heap) (va_runS (As := [.ref formula_5, .int a3, .int a4]) (rest := [.ref r1, .ref r0]) ⟨hx, hb, hml, hown, hts⟩ (uX5_part l dC dI ca base B hB hAp hB280 G0 s.heap formula_5 a3 a4 nformula_5 LC LS) (va_cwS 3 hts (jgS (jWr_84 _ (List.mem_of_getElem? (i := 20) rfl)) (jWr_84 _ (List.mem_of_getElem? (i := 21) rfl)) (jWr_2 _ (List.mem_of_getElem? (i := 4) rfl)) (jWr_84 _ (List.mem_of_getElem? (i := 22) rfl))) rfl rfl rfl (by decide +kernel) ⟨by rw [← hR]; exact Nat.le_of_ble_eq_true rfl, by rw [← hR]; exact Nat.le_of_ble_eq_true rfl⟩) ⟨fun a U g mk q => by obtain ⟨q0, q1, q2, qK, q10, q11, q12⟩ := q; exact ⟨q0, q1, q2, jG.calling g mk a qK, q10, q11, q12⟩, fun U hU hW => ⟨rfl, hU, hh_4.2.1, hG.step hW hU hh_4.1, hg_formula_5, jP.nil, by first | omega | (refine ⟨?_, ?_⟩ <;> (first | omega | rfl | assumption | decide | exact Or.inl rfl | exact Or.inr rfl | (simp only; omega)))⟩⟩ rfl rfl hl.1 rfl (lv_room (Nat.le_of_ble_eq_true rfl)) dX5_addSide_13 ⟨by rw [hRc]; omega, by rw [hRs]; omega⟩) hh_4.1 (fun q _ h => h) (fun q h => h) (fun r_7 u_6 t_6 H_6 locs_6 ht_6 hvm_6 hr_7 hb_6 hz_6 hk_6 hS_6 => ?_)
    rw [ht_6] at hb_6
    obtain ⟨m_ret_6, G_6⟩ := u_6
    simp only at hb_6
    obtain ⟨⟨hb_61, hb_62, hb_63, hb_64, hb_65, hb_66⟩, hN_6, hbK_6⟩ := hb_6
    have hN_6 : (jNk [0, 1, 2, 3, 4, 6, 7, 8, 9, 10, 11, 12, 13, 14, 15, 16, 17, 175]) G0 G_6 := hN_6.sub (by decide)
    have hh_6 : jSt (dC, dI) B base G0 G_6 EX5_addSide s.heap (0 + (1)) (0 + (m_ret_6)) [(r1, 5, 3, .ref formula_5), (r0, 7, 10, .int pf)] [] [(jFg, jFr dC dI ca G0 r0)] H_6 locs_6 := (hh_4.callG hb_61 hb_62 hb_63 hb_64 hb_65 hS_6 rfl (L1 := [(r1, 5, 3, .ref formula_5), (r0, 7, 10, .int pf)]) [0, 1] rfl rfl (M1 := []) [] rfl rfl (I1 := [(jFg, jFr dC dI ca G0 r0)]) [0] rfl rfl).more hb_66
    have hNn_6 : (jNk [0, 1, 2, 3, 4, 6, 7, 8, 9, 10, 11, 12, 13, 14, 15, 16, 17, 175]) G0 G_6 := (jNk.rf).tr hN_6
    have hg_8 := hb_62 _ _ hg_r0
    have hg_9 := hb_62 _ _ hg_r1
    have hg_10 := hb_62 _ _ hg_formula_5
    have hd_11 := jFr.grow (hh_6.iv 0 rfl) hb_62
    have hh_12 := hh_6.sub (L1 := [(r1, 5, 3, .ref formula_5), (r0, 7, 10, .int pf)]) [0, 1] rfl (M1 := []) [] rfl (I1 := []) [] rfl
    clear hh_6
    have hh_13 := hh_12.addI (jFr.ie hd_11)
    clear hh_12
    obtain ⟨hr_7, hr_7n, hr_7p⟩ := hr_7
    try simp only at hr_7p
    obtain ⟨ret_14, rfl, hg_ret_14⟩ := hr_7
    have hsy_6 : s.heap.size ≤ ret_14 := Nat.le_trans hh_4.1.1 hr_7n.le
    have hsz_15 := hh_13.2.2.2.2.2.1
    have htt_15 := hh_13.2.2.2.2.2.2.1
    refine W.room (fun hrc_15 hrs_15 => ?_)
    refine j_callx (A0 := jA base) (H0 := s.heap) (va_runV (As := [.ref ret_14]) (rest := [.ref r0]) ⟨hx, hb, hml, hown, hts⟩ (uX3_withFormula l dC dI ca base B hB hAp hB5 hB101 hB280 hB313 G_6 H_6 r1 ret_14 n1 m_ret_6 LC LS) (cwV 1 hts (jgV (jWr_87 _ (List.mem_of_getElem? (i := 10) rfl)) (jWr_87 _ (List.mem_of_getElem? (i := 11) rfl)) (jWr_87 _ (List.mem_of_getElem? (i := 12) rfl)) (jWr_82 _ (List.mem_of_getElem? (i := 10) rfl)) (jWr_87 _ (List.mem_of_getElem? (i := 13) rfl))) rfl rfl rfl (by decide +kernel) ⟨by rw [← hR]; exact Nat.le_of_ble_eq_true rfl, by rw [← hR]; exact Nat.le_of_ble_eq_true rfl⟩) ⟨fun a U g mk q => by obtain ⟨q0, q1, q2, qK, q10, q11, q12, q13⟩ := q; exact ⟨q0, q1, q2, jG.calling g mk a qK, q10, q11, q12, q13⟩, hh_13.recv (C := RX3) (T := TX3) (N := 4) hB5 rfl (by decide) hg_9 hK, fun U hU hW => ⟨rfl, hU, hh_13.2.1, hG.step hW hU hh_13.1, hg_9, hg_ret_14, jP.nil, by first | omega | (refine ⟨?_, ?_⟩ <;> (first | omega | rfl | assumption | decide | exact Or.inl rfl | exact Or.inr rfl | (simp only; omega)))⟩⟩ rfl rfl hl.1 rfl (lv_room (Nat.le_of_ble_eq_true rfl)) dX5_addSide_16 ⟨by rw [hRc]; omega, by rw [hRs]; omega⟩) hh_13.1 (fun q _ h => h) (fun q h => h) (fun r_16 u_15 t_15 H_15 locs_15 ht_15 hvm_15 hr_16 hb_15 hz_15 hk_15 hS_15 => ?_)
    rw [ht_15] at hb_15
    obtain ⟨m_ret_15, G_15⟩ := u_15
    simp only at hb_15
    obtain ⟨⟨hb_151, hb_152, hb_153, hb_154, hb_155, hb_156⟩, hN_15⟩ := hb_15
    have hh_15 : jSt (dC, dI) B base G0 G_15 EX5_addSide s.heap ((0 + (1)) + (1)) ((0 + (m_ret_6)) + (4)) [(r1, 5, 3, .ref formula_5), (r0, 7, 10, .int pf)] [] [(jFg, jFr dC dI ca G_6 r0)] H_15 locs_15 := (hh_13.callG hb_151 hb_152 hb_153 hb_154 hb_155 hS_15 rfl (L1 := [(r1, 5, 3, .ref formula_5), (r0, 7, 10, .int pf)]) [0, 1] rfl rfl (M1 := []) [] rfl rfl (I1 := [(jFg, jFr dC dI ca G_6 r0)]) [0] rfl rfl).more hb_156
    have hNn_15 : (jNk [0, 1, 2, 3, 4, 6, 7, 8, 9, 10, 11, 12, 13, 14, 15, 16, 17, 175]) G0 G_15 := (hNn_6).tr hN_15
    have hg_17 := hb_152 _ _ hg_8
    have hg_18 := hb_152 _ _ hg_9
    have hg_19 := hb_152 _ _ hg_10
    have hd_20 := jFr.grow (hh_15.iv 0 rfl) hb_152
    have hh_21 := hh_15.sub (L1 := [(r1, 5, 3, .ref formula_5), (r0, 7, 10, .int pf)]) [0, 1] rfl (M1 := []) [] rfl (I1 := []) [] rfl
    clear hh_15
    have hh_22 := hh_21.addI (jFr.ie hd_20)
    clear hh_21
    obtain ⟨hr_16, hr_16n, hr_16p⟩ := hr_16
    try simp only at hr_16p
    obtain ⟨ret_23, rfl, hg_ret_23⟩ := hr_16
    have hsy_15 : s.heap.size ≤ ret_23 := Nat.le_trans hh_13.1.1 hr_16n.le
    have hsz_24 := hh_22.2.2.2.2.2.1
    have htt_24 := hh_22.2.2.2.2.2.2.1
    refine W.room (fun hrc_24 hrs_24 => ?_)
    refine va_calli (A0 := jA base) (H0 := s.heap) (va_runV (As := [.ref ret_23]) (rest := []) ⟨hx, hb, hml, hown, hts⟩ (uX5_add l dC dI ca base B hB hAp hB5 hB7 hB211 G_15 H_15 r0 ret_23 m_ret_15 pf) (cwV 1 hts (jgV (jWr_85 _ (List.mem_of_getElem? (i := 8) rfl)) (jWr_85 _ (List.mem_of_getElem? (i := 9) rfl)) (jWr_85 _ (List.mem_of_getElem? (i := 10) rfl)) (jWr_2 _ (List.mem_of_getElem? (i := 4) rfl)) (jWr_85 _ (List.mem_of_getElem? (i := 11) rfl))) rfl rfl rfl (by decide +kernel) ⟨by rw [← hR]; exact Nat.le_of_ble_eq_true rfl, by rw [← hR]; exact Nat.le_of_ble_eq_true rfl⟩) ⟨fun a U g mk q => by obtain ⟨q0, q1, q2, qK, q10, q11, q12, q13, q14, q15⟩ := q; exact ⟨q0, q1, q2, jG.calling g mk a qK, (va_K.moved (Vm.Alike.refl U.vm) q10), q11, q12, q13, q14, q15⟩, hh_22.recv (C := RX5) (T := TX5) (N := 11) hB7 rfl (by decide) hg_17 hK, fun U hU hW => ⟨rfl, hU, hh_22.2.1, hG.step hW hU hh_22.1, va_K.moved hW.alike hK2, hg_17, hg_ret_23, (hh_22.2.2.1.sub (L1 := [(r0, 7, 10, .int pf)]) [1] rfl), (hh_22.2.2.2.2.2.2.2.2.sub (L1 := [(jFg, jFr dC dI ca G_15 r0)]) [0] rfl), by first | omega | (refine ⟨?_, ?_, ?_⟩ <;> (first | omega | rfl | assumption | decide | exact Or.inl rfl | exact Or.inr rfl | (simp only; omega)))⟩⟩ rfl rfl hl.1 rfl (lv_room (Nat.le_of_ble_eq_true rfl)) dX5_addSide_19 ⟨by rw [hRc]; show _ + 0 ≤ _; omega, by rw [hRs]; show _ + 0 ≤ _; omega⟩) hh_22.1 (fun q _ h => h) (fun q h => h) (fun r_25 u_24 t_24 H_24 locs_24 ht_24 hvm_24 hr_25 hb_24 hz_24 hk_24 hS_24 => ?_)
    obtain ⟨qf_24, rfl⟩ : ∃ z, z = u_24 := ⟨_, rfl⟩
    rw [ht_24] at hb_24
    obtain ⟨hb_24, hbE_24⟩ := hb_24
    obtain ⟨hb_241, hb_242, hb_243, hb_244, hb_245⟩ := hb_24
    have hh_24 : jSt (dC, dI) B base G0 G_15 EX5_addSide s.heap ((0 + (1)) + (1)) ((0 + (m_ret_6)) + (4)) [(r0, 7, 10, .int qf_24), (r1, 5, 3, .ref formula_5)] [] [(jFg, jFr dC dI ca G_15 r0)] H_24 locs_24 := (((hh_22.call hb_241 hb_242 hb_243 hb_244 hS_24 rfl (L1 := [(r1, 5, 3, .ref formula_5)]) [0] rfl rfl (M1 := []) [] rfl rfl (I1 := []) [] rfl rfl).more hb_245)).addIs hbE_24
    clear hh_22 ht_24 hvm_24 hz_24 hk_24 hS_24 hb_241 hb_242 hb_243 hb_244 hb_245
    clear  hbE_24
    obtain ⟨hr_25_0, hr_25_1⟩ := hr_25
    refine lv_goto (tgt := 27) hx hb dX5_addSide_22 (by decide) ?_
    have hsz_26 := hh_24.2.2.2.2.2.1
    have htt_26 := hh_24.2.2.2.2.2.2.1
    refine W.room (fun hrc_26 hrs_26 => ?_)
    refine W.widen (k := LC - s.heap.size) (n := LS - jTot s.heap) (by omega) (by omega) ?_
    rw [hQ]
    exact W.iret (v := r_25) hx hb hr (fun t ht hW => ⟨⟨r_25, (qf_24, G_15), rfl, by (try dsimp only); exact ⟨(by first | omega | rfl | assumption | fail), (by first | omega | rfl | assumption | fail)⟩, ⟨hh_24.ra (by first | omega | (simp only; omega)) (by first | omega | (simp only; omega)) (M1 := [(r0, 7, 10, .int qf_24)]) [0] rfl ht, hNn_15, by rw [ht]; exact hh_24.2.2.2.2.2.2.2.2.sub (L1 := [(jFg, jFr dC dI ca G_15 r0)]) [0] rfl⟩⟩, by rw [ht]; try exact hh_24.1.1, fun q h9 hq => by rw [ht]; try exact hh_24.1.2.1 q h9 hq⟩) hh_24.1.2.2 dX5_addSide_27
set_option maxHeartbeats 4000000 in
set_option maxRecDepth 20000 in
theorem uX5_intro (l : Launch) (dC : Nat → ClassId) (dI : Nat → Nat → Nat) (ca : Nat → ClassId) (base : Nat) (B : jF) (hB : jBok B) (hAp : jAp (dC, dI)) (hB5 : ∀ n G a H, B 5 n G a H ↔ jOb (dC, dI) 5 4 (F5 n G) a H) (hB7 : ∀ n G a H, B 7 n G a H ↔ jOb (dC, dI) 7 11 (F7 n G) a H) (hB12 : ∀ n G a H, B 12 n G a H ↔ jOb (dC, dI) 12 11 (F12b n G) a H) (hB101 : ∀ n G a H, B 101 n G a H ↔ jAr (dC, dI) (ca 1) (fun j z => True) n a H) (hB211 : ∀ n G a H, B 211 n G a H ↔ jAq (dC, dI) (ca 7) (jQh) n G a H) (hB280 : ∀ n G a H, B 280 n G a H ↔ jAr (dC, dI) (ca 1) (fun j z => -1 ≤ z.toInt) n a H) (hB290 : ∀ n G a H, B 290 n G a H ↔ jAr (dC, dI) (ca 1) (fun j z => 0 ≤ z.toInt ∧ z.toInt ≤ 3000) n a H) (hB291 : ∀ n G a H, B 291 n G a H ↔ jAr (dC, dI) (ca 1) (fun j z => 0 ≤ z.toInt ∧ z.toInt ≤ 3000) n a H) (hB292 : ∀ n G a H, B 292 n G a H ↔ jAr (dC, dI) (ca 1) (fun j z => 0 ≤ z.toInt ∧ z.toInt ≤ 8191) n a H) (hB313 : ∀ n G a H, B 313 n G a H ↔ jAq (dC, dI) (ca 8) (jQk 280 80) n G a H) (G0 : jT) (H0 : Heap) (r0 : Nat) (r1 : Nat) (a2 : Int32) (a3 : Int32) (n1 : Nat) (pf : Int32) (LC LS : Nat) : Met l yX5_intro (jw yX5_intro cX5_intro 6 (some .int)) ({ frames := 4, cells := LC - H0.size, slots := LS - jTot H0, locals := 129 }) (va_Pc [.ref r0, .ref r1, .int a2, .int a3] (fun U => U.heap = H0 ∧ jX B base G0 [] H0 ∧ jG dC dI ca base U ∧ jK2 dC dI ca U ∧ jK5 dC dI ca U ∧ G0 r0 = some (7, 0) ∧ G0 r1 = some (5, n1) ∧ jP (dC, dI) G0 H0 [(r0, 7, 10, .int pf)] ∧ jIs (dC, dI) G0 H0 [(jFg, jFr dC dI ca G0 r0)] ∧ H0.size + 6 ≤ LC ∧ jTot H0 + 200 ≤ LS ∧ 0 ≤ pf.toInt ∧ pf.toInt ≤ 100 ∧ n1 % 10 = 1 ∧ 1 ≤ a3.toInt)) (va_Qi (S := Int32 × jT) (fun r u => (pf.toInt ≤ u.1.toInt ∧ u.1.toInt ≤ pf.toInt + 1)) (fun u t => jRa (dC, dI) B base G0 u.2 EX5_intro H0 (6) (200) [(r0, 7, 10, .int u.1)] t.heap ∧ (jNk [0, 1, 2, 3, 4, 6, 7, 8, 9, 10, 11, 12, 13, 14, 15, 16, 17, 175]) G0 u.2 ∧ jIs (dC, dI) u.2 t.heap [(jFg, jFr dC dI ca u.2 r0)]) (jA base)) (LC - H0.size) (LS - jTot H0) (jA base) := by
  refine Met.ofW (cc := cX5_intro) (maxL := 6) (ret := (some .int)) (by decide) rfl ?_
  intro p e s m args below meth c s₁ Bd hml hv
  obtain ⟨rfl, hH0, hX, hG, hK2, hK5, hg_r0, hg_r1, hP0, hI0, hLC0, hLS0, hp0, hp1, hp2, hp3⟩ := hv
  have hK := hG.1
  have hx := Bd.exec
  have hb := Bd.bytes
  have hr := Bd.returns
  have hts := atoms_spec (ws := (jw yX5_intro cX5_intro 6 (some .int))) Bd.pre
  have htw : ∀ w ∈ jWl, w.before _ s = true := fun w h => hts w (List.mem_cons_of_mem _ h)
  have hown : s.vm.findClass RX5 = some m.cls := findClass_of_methodNamed Bd.named
  have hlocks := Bd.notSynchronized
  obtain ⟨Q, hQ⟩ : ∃ Q, Q = MQ below (va_Qi (S := Int32 × jT) (fun r u => (pf.toInt ≤ u.1.toInt ∧ u.1.toInt ≤ pf.toInt + 1)) (fun u t => jRa (dC, dI) B base G0 u.2 EX5_intro H0 (6) (200) [(r0, 7, 10, .int u.1)] t.heap ∧ (jNk [0, 1, 2, 3, 4, 6, 7, 8, 9, 10, 11, 12, 13, 14, 15, 16, 17, 175]) G0 u.2 ∧ jIs (dC, dI) u.2 t.heap [(jFg, jFr dC dI ca u.2 r0)]) (jA base)) ([.ref r0, .ref r1, .int a2, .int a3] : List Value).toArray s (LC - H0.size) (LS - jTot H0) (jA base) := ⟨_, rfl⟩
  rw [← hQ]
  have hl := lv_entry ([.ref r0, .ref r1, .int a2, .int a3]) (n := 6) (Nat.le_of_ble_eq_true rfl)
  rw [lg_entry_eq]
  generalize (lg_sl ([.ref r0, .ref r1, .int a2, .int a3]) ++ List.replicate (6 - (lg_sl ([.ref r0, .ref r1, .int a2, .int a3])).length) Slot.unset).toArray = ls at hl ⊢
  have hl : lv_has ls 6 [(0, .ref r0), (1, .ref r1), (2, .int a2), (3, .int a3)] := hl
  generalize hR : (headSpec (jw yX5_intro cX5_intro 6 (some .int)) ({ frames := 4, cells := LC - H0.size, slots := LS - jTot H0, locals := 129 })).room = R
  subst hH0
  have hh : jSt (dC, dI) B base G0 G0 EX5_intro s.heap 0 0 [(r0, 7, 10, .int pf)] [] [(jFg, jFr dC dI ca G0 r0)] s.heap [] := jSt.start hX hP0 jMc.nil hI0
  clear hX hP0
  have hk0 : (0 : Int32).toInt = 0 := by decide
  have hk1 : (1 : Int32).toInt = 1 := by decide
  have hk5 : (5 : Int32).toInt = 5 := by decide
  have hk8 : (8 : Int32).toInt = 8 := by decide
  have hly_5_3 := htw (u_lay RX3 TX3 3) (jWc_wsX30 _ (u_in_lay (by decide)))
  have hly_7_1 := htw (u_lay RX5 TX5 1) (jWc_wsX50 _ (u_in_lay (by decide)))
  have hly_12_6 := htw (u_lay RX10 TX10 6) (jWc_wsX100 _ (u_in_lay (by decide)))
  have hlk_23 := (htw (.fieldLink RX5 23 "ProofServer$Kernel" "syntax" "LProofServer$Syntax;") (jWr_4 _ (List.mem_of_getElem? (i := 15) rfl)))
  have hlk_93 := (htw (.fieldLink RX5 93 "ProofServer$Syntax" "told" "[I") (jWr_81 _ (List.mem_of_getElem? (i := 8) rfl)))
  have hlk_190 := (htw (.fieldLink RX5 190 "ProofServer$Goal" "formula" "[I") (jWr_84 _ (List.mem_of_getElem? (i := 15) rfl)))
  have hrg_a2 := jb_rng a2
  have hrg_a3 := jb_rng a3
  have hbs : base ≤ s.heap.size := Nat.le_of_lt (Nat.lt_of_le_of_lt (hh.ab hg_r0).1 (hh.ab hg_r0).2)
  have hRc : R.cells = LC - s.heap.size := by rw [← hR]; rfl
  have hRs : R.slots = LS - jTot s.heap := by rw [← hR]; rfl
  obtain ⟨v_1, hv_1, hh_2⟩ := hh.pin (C := RX3) (T := TX3) (N := 4) hB5 rfl (by decide) hg_r1 (i := 2) (by decide) rfl
  obtain ⟨hypotheses_3, khypotheses_3, rfl, hg_hypotheses_3, hhahypotheses_3, hhbhypotheses_3, hhchypotheses_3, hhdhypotheses_3, hhehypotheses_3⟩ := hv_1
  obtain rfl : khypotheses_3 = 313 := hhbhypotheses_3 (by omega)
  refine lv_aload_n hx hb dX5_intro_0 rfl (lv_at hl 0 rfl) ?_
  obtain ⟨v_4, hv_4, hh_5⟩ := hh_2.pin (C := RX5) (T := TX5) (N := 11) hB7 rfl (by decide) hg_r0 (i := 1) (by decide) rfl
  clear hh_2
  obtain ⟨syntax_6, rfl, hg_syntax_6⟩ := hv_4
  refine j7_read hx hb hown hK (C := RX5) (T := TX5) (N := 11) rfl hly_7_1 hlk_23 (hh_5.at 0 rfl) dX5_intro_1 ?_
  obtain ⟨v_7, hv_7, hh_8⟩ := hh_5.pin (C := RX10) (T := TX10) (N := 11) hB12 rfl (by decide) hg_syntax_6 (i := 6) (by decide) rfl
  clear hh_5
  obtain ⟨told_9, rfl, hg_told_9⟩ := hv_7
  refine j7_read hx hb hown hK (C := RX10) (T := TX10) (N := 11) rfl hly_12_6 hlk_93 (hh_8.at 0 rfl) dX5_intro_4 ?_
  refine lv_iconst (v := 0) hx hb dX5_intro_7 (by decide) ?_
  refine j7_iald hx hb hK hh_8 hB292 1 rfl (by decide) hg_told_9 (x := 0) ((by decide)) (by omega) dX5_intro_8 (fun z_10 (hz_10 : 0 ≤ z_10.toInt ∧ z_10.toInt ≤ 8191) => ?_)
  refine lv_istore (lv' := [(4, .int z_10), (0, .ref r0), (1, .ref r1), (2, .int a2), (3, .int a3)]) hx hb dX5_intro_9 hl (by decide) rfl (fun ls hl => ?_)
  refine lv_aload_n hx hb dX5_intro_11 rfl (lv_at hl 2 rfl) ?_
  obtain ⟨v_11, hv_11, hh_12⟩ := hh_8.pin (C := RX3) (T := TX3) (N := 4) hB5 rfl (by decide) hg_r1 (i := 3) (by decide) rfl
  clear hh_8
  rcases hv_11 with ⟨rfl, hcv_11⟩ | ⟨formula_13, nformula_13, rfl, hg_formula_13, hn_formula_13, hcv_11, hdv_11⟩
  · exact absurd hcv_11 (by omega)
  refine j7_read hx hb hown hK (C := RX3) (T := TX3) (N := 4) rfl hly_5_3 hlk_190 (hh_12.at 0 rfl) dX5_intro_12 ?_
  refine lv_astore (lv' := [(5, .ref formula_13), (4, .int z_10), (0, .ref r0), (1, .ref r1), (2, .int a2), (3, .int a3)]) hx hb dX5_intro_15 hl (by decide) rfl (fun ls hl => ?_)
  refine lv_iload_n hx hb dX5_intro_17 rfl (lv_at hl 4 rfl) ?_
  refine lv_iconst (v := 1) hx hb dX5_intro_18 (by decide) ?_
  refine lv_icmp_ne (tgt := 49) hx hb dX5_intro_19 (by decide) (fun c_14 => ?_) (fun c_14 => ?_)
  · skip
    have c_14' : a2.toInt ≠ 1 := jb_ne (rfl) ((by decide)) c_14
    refine lv_iload_n hx hb dX5_intro_49 rfl (lv_at hl 4 rfl) ?_
    refine lv_iconst (v := 5) hx hb dX5_intro_50 (by decide) ?_
    refine lv_icmp_ne (tgt := 80) hx hb dX5_intro_51 (by decide) (fun c_15 => ?_) (fun c_15 => ?_)
    · skip
      have c_15' : a2.toInt ≠ 5 := jb_ne (rfl) ((by decide)) c_15
      refine lv_bipush (v := 8) hx hb dX5_intro_80 (by decide) ?_
      have hsz_16 := hh_12.2.2.2.2.2.1
      have htt_16 := hh_12.2.2.2.2.2.2.1
      refine W.room (fun hrc_16 hrs_16 => ?_)
      refine W.widen (k := LC - s.heap.size) (n := LS - jTot s.heap) (by omega) (by omega) ?_
      rw [hQ]
      exact W.iret (v := 8) hx hb hr (fun t ht hW => ⟨⟨8, (pf, G0), rfl, by (try dsimp only); exact ⟨(by first | omega | rfl | assumption | fail), (by first | omega | rfl | assumption | fail)⟩, ⟨hh_12.ra (by first | omega | (simp only; omega)) (by first | omega | (simp only; omega)) (M1 := [(r0, 7, 10, .int pf)]) [4] rfl ht, jNk.rf, by rw [ht]; exact hh_12.2.2.2.2.2.2.2.2.sub (L1 := [(jFg, jFr dC dI ca G0 r0)]) [0] rfl⟩⟩, by rw [ht]; try exact hh_12.1.1, fun q h9 hq => by rw [ht]; try exact hh_12.1.2.1 q h9 hq⟩) hh_12.1.2.2 dX5_intro_82
    · skip
      have c_15' : a2.toInt = 5 := jb_ne_n (rfl) ((by decide)) c_15
      refine lv_aload_n hx hb dX5_intro_54 rfl (lv_at hl 2 rfl) ?_
      refine lv_aload_n hx hb dX5_intro_55 rfl (lv_at hl 3 rfl) ?_
      refine lv_iload hx hb dX5_intro_56 (lv_at hl 1 rfl) ?_
      refine lv_aload_n hx hb dX5_intro_58 rfl (lv_at hl 2 rfl) ?_
      refine lv_aload hx hb dX5_intro_59 (lv_at hl 0 rfl) ?_
      refine lv_aload_n hx hb dX5_intro_61 rfl (lv_at hl 2 rfl) ?_
      refine lv_iload hx hb dX5_intro_62 (lv_at hl 1 rfl) ?_
      have hsz_17 := hh_12.2.2.2.2.2.1
      have htt_17 := hh_12.2.2.2.2.2.2.1
      refine W.room (fun hrc_17 hrs_17 => ?_)
      refine j_callx (A0 := jA base) (H0 := s.heap) (va_runV (As := [.int z_10]) (rest := [.ref formula_13, .ref r0, .int z_10, .ref r1, .ref r0]) ⟨hx, hb, hml, hown, hts⟩ (uX5_variable l dC dI ca base B hB hAp hB7 hB280 G0 s.heap r0 z_10) (cwV 1 hts (jgV (jWr_85 _ (List.mem_of_getElem? (i := 12) rfl)) (jWr_85 _ (List.mem_of_getElem? (i := 13) rfl)) (jWr_85 _ (List.mem_of_getElem? (i := 14) rfl)) (jWr_2 _ (List.mem_of_getElem? (i := 4) rfl)) (jWr_85 _ (List.mem_of_getElem? (i := 15) rfl))) rfl rfl rfl (by decide +kernel) ⟨by rw [← hR]; exact Nat.le_of_ble_eq_true rfl, by rw [← hR]; exact Nat.le_of_ble_eq_true rfl⟩) ⟨fun a U g mk q => by obtain ⟨q0, q1, q2, qK, q10, q11, q12⟩ := q; exact ⟨q0, q1, q2, jG.calling g mk a qK, q10, q11, q12⟩, hh_12.recv (C := RX5) (T := TX5) (N := 11) hB7 rfl (by decide) hg_r0 hK, fun U hU hW => ⟨rfl, hU, hh_12.2.1, hG.step hW hU hh_12.1, hg_r0, jP.nil, by first | omega | (refine ⟨?_, ?_⟩ <;> (first | omega | rfl | assumption | decide | exact Or.inl rfl | exact Or.inr rfl | (simp only; omega)))⟩⟩ rfl rfl hl.1 rfl (lv_room (Nat.le_of_ble_eq_true rfl)) dX5_intro_64 ⟨by rw [hRc]; show _ + 0 ≤ _; omega, by rw [hRs]; show _ + 0 ≤ _; omega⟩) hh_12.1 (fun q _ h => h) (fun q h => h) (fun r_18 u_17 t_17 H_17 locs_17 ht_17 hvm_17 hr_18 hb_17 hz_17 hk_17 hS_17 => ?_)
      rw [ht_17] at hb_17
      obtain ⟨hb_171, hb_172, hb_173, hb_174, hb_175⟩ := hb_17
      have hh_17 : jSt (dC, dI) B base G0 G0 EX5_intro s.heap 0 0 [(r1, 5, 3, .ref formula_13), (syntax_6, 12, 6, .ref told_9), (r0, 7, 1, .ref syntax_6), (r1, 5, 2, .ref hypotheses_3), (r0, 7, 10, .int pf)] [] [(jFg, jFr dC dI ca G0 r0)] H_17 locs_17 := ((hh_12.call hb_171 hb_172 hb_173 hb_174 hS_17 rfl (L1 := [(r1, 5, 3, .ref formula_13), (syntax_6, 12, 6, .ref told_9), (r0, 7, 1, .ref syntax_6), (r1, 5, 2, .ref hypotheses_3), (r0, 7, 10, .int pf)]) [0, 1, 2, 3, 4] rfl rfl (M1 := []) [] rfl rfl (I1 := [(jFg, jFr dC dI ca G0 r0)]) [0] rfl rfl).more hb_175)
      clear hh_12 ht_17 hvm_17 hz_17 hk_17 hS_17 hb_171 hb_172 hb_173 hb_174 hb_175
      obtain ⟨ret_19, rfl, hg_ret_19⟩ := hr_18
      refine lv_iconst (v := 1) hx hb dX5_intro_67 (by decide) ?_
      obtain ⟨v_22, hv_22, hh_23⟩ := hh_17.pin (C := RX5) (T := TX5) (N := 11) hB7 rfl (by decide) hg_r0 (i := 6) (by decide) rfl
      obtain ⟨termFrom_24, rfl, hg_termFrom_24⟩ := hv_22
      obtain ⟨v_25, hv_25, hh_26⟩ := hh_23.pin (C := RX5) (T := TX5) (N := 11) hB7 rfl (by decide) hg_r0 (i := 7) (by decide) rfl
      obtain ⟨termSize_27, rfl, hg_termSize_27⟩ := hv_25
      obtain ⟨f_fx_28, hh_28⟩ := hh_26.cpin hB290 (by decide) (by decide) hg_termFrom_24
      clear hh_26
      obtain ⟨f_ft_29, hh_29⟩ := hh_28.cpin hB291 (by decide) (by decide) hg_termSize_27
      clear hh_28
      have hsz_20 := hh_29.2.2.2.2.2.1
      have htt_20 := hh_29.2.2.2.2.2.2.1
      refine W.room (fun hrc_20 hrs_20 => ?_)
      refine j_callx (A0 := jA base) (H0 := s.heap) (va_runV (As := [.ref formula_13, .ref ret_19, .int 1]) (rest := [.int z_10, .ref r1, .ref r0]) ⟨hx, hb, hml, hown, hts⟩ (uX5_opened l dC dI ca base B hB hAp hB7 hB280 hB290 hB291 G0 H_17 r0 formula_13 ret_19 1 nformula_13 1 termFrom_24 termSize_27 f_fx_28 f_ft_29 LC LS) (cwV 3 hts (jgV (jWr_85 _ (List.mem_of_getElem? (i := 16) rfl)) (jWr_85 _ (List.mem_of_getElem? (i := 17) rfl)) (jWr_85 _ (List.mem_of_getElem? (i := 18) rfl)) (jWr_2 _ (List.mem_of_getElem? (i := 4) rfl)) (jWr_85 _ (List.mem_of_getElem? (i := 19) rfl))) rfl rfl rfl (by decide +kernel) ⟨by rw [← hR]; exact Nat.le_of_ble_eq_true rfl, by rw [← hR]; exact Nat.le_of_ble_eq_true rfl⟩) ⟨fun a U g mk q => by obtain ⟨q0, q1, q2, qK, q10, q11, q12, q13, q14, q15, q16, q17⟩ := q; exact ⟨q0, q1, q2, jG.calling g mk a qK, q10, q11, q12, q13, q14, q15, q16, q17⟩, hh_29.recv (C := RX5) (T := TX5) (N := 11) hB7 rfl (by decide) hg_r0 hK, fun U hU hW => ⟨rfl, hU, hh_29.2.1, hG.step hW hU hh_29.1, hg_formula_13, hg_ret_19, hg_r0, hg_termFrom_24, hg_termSize_27, (hh_29.2.2.1.sub (L1 := [(r0, 7, 6, .ref termFrom_24), (r0, 7, 7, .ref termSize_27)]) [1, 0] rfl), (hh_29.2.2.2.2.2.2.2.1.sub (L1 := [(termFrom_24, 290, 13, ca 1, f_fx_28), (termSize_27, 291, 13, ca 1, f_ft_29)]) [1, 0] rfl), by first | omega | (refine ⟨?_, ?_, ?_⟩ <;> (first | omega | rfl | assumption | decide | exact Or.inl rfl | exact Or.inr rfl | (simp only; omega)))⟩⟩ rfl rfl hl.1 rfl (lv_room (Nat.le_of_ble_eq_true rfl)) dX5_intro_68 ⟨by rw [hRc]; omega, by rw [hRs]; omega⟩) hh_29.1 (fun q _ h => h) (fun q h => h) (fun r_21 u_20 t_20 H_20 locs_20 ht_20 hvm_20 hr_21 hb_20 hz_20 hk_20 hS_20 => ?_)
      rw [ht_20] at hb_20
      obtain ⟨m_ret_20, G_20⟩ := u_20
      simp only at hb_20
      obtain ⟨⟨hb_201, hb_202, hb_203, hb_204, hb_205, hb_206⟩, hN_20⟩ := hb_20
      have hN_20 : (jNk [0, 1, 2, 3, 4, 6, 7, 8, 9, 10, 11, 12, 13, 14, 15, 16, 17, 175]) G0 G_20 := hN_20.sub (by decide)
      have hh_20 : jSt (dC, dI) B base G0 G_20 EX5_intro s.heap (0 + (1)) (0 + (80)) [(r0, 7, 7, .ref termSize_27), (r0, 7, 6, .ref termFrom_24), (r1, 5, 3, .ref formula_13), (syntax_6, 12, 6, .ref told_9), (r0, 7, 1, .ref syntax_6), (r1, 5, 2, .ref hypotheses_3), (r0, 7, 10, .int pf)] [] [(jFg, jFr dC dI ca G0 r0)] H_20 locs_20 := (hh_29.callG hb_201 hb_202 hb_203 hb_204 hb_205 hS_20 rfl (L1 := [(r0, 7, 7, .ref termSize_27), (r0, 7, 6, .ref termFrom_24), (r1, 5, 3, .ref formula_13), (syntax_6, 12, 6, .ref told_9), (r0, 7, 1, .ref syntax_6), (r1, 5, 2, .ref hypotheses_3), (r0, 7, 10, .int pf)]) [0, 1, 2, 3, 4, 5, 6] rfl rfl (M1 := []) [] rfl rfl (I1 := [(jFg, jFr dC dI ca G0 r0)]) [0] rfl rfl).more hb_206
      have hNn_20 : (jNk [0, 1, 2, 3, 4, 6, 7, 8, 9, 10, 11, 12, 13, 14, 15, 16, 17, 175]) G0 G_20 := (jNk.rf).tr hN_20
      have hg_30 := hb_202 _ _ hg_formula_13
      have hg_31 := hb_202 _ _ hg_r0
      have hg_32 := hb_202 _ _ hg_r1
      have hg_33 := hb_202 _ _ hg_termSize_27
      have hg_34 := hb_202 _ _ hg_termFrom_24
      have hg_35 := hb_202 _ _ hg_told_9
      have hg_36 := hb_202 _ _ hg_syntax_6
      have hg_37 := hb_202 _ _ hg_hypotheses_3
      have hd_38 := jFr.grow (hh_20.iv 0 rfl) hb_202
      have hh_39 := hh_20.sub (L1 := [(r0, 7, 7, .ref termSize_27), (r0, 7, 6, .ref termFrom_24), (r1, 5, 3, .ref formula_13), (syntax_6, 12, 6, .ref told_9), (r0, 7, 1, .ref syntax_6), (r1, 5, 2, .ref hypotheses_3), (r0, 7, 10, .int pf)]) [0, 1, 2, 3, 4, 5, 6] rfl (M1 := []) [] rfl (I1 := []) [] rfl
      clear hh_20
      have hh_40 := hh_39.addI (jFr.ie hd_38)
      clear hh_39
      obtain ⟨hr_21, hr_21p⟩ := hr_21
      try simp only at hr_21p
      rcases hr_21 with rfl | ⟨hr_21, hr_21n⟩
      · skip
        have hsz_41 := hh_40.2.2.2.2.2.1
        have htt_41 := hh_40.2.2.2.2.2.2.1
        refine W.room (fun hrc_41 hrs_41 => ?_)
        refine j_callx (A0 := jA base) (H0 := s.heap) (va_runV (As := [.int z_10, .null]) (rest := [.ref r0]) ⟨hx, hb, hml, hown, hts⟩ (uX3_withVariableZ l dC dI ca base B hB hAp hB5 hB101 hB280 hB313 G_20 H_20 r1 z_10 n1 LC LS) (cwV 2 hts (jgV (jWr_86 _ (List.mem_of_getElem? (i := 2) rfl)) (jWr_86 _ (List.mem_of_getElem? (i := 3) rfl)) (jWr_86 _ (List.mem_of_getElem? (i := 4) rfl)) (jWr_82 _ (List.mem_of_getElem? (i := 10) rfl)) (jWr_86 _ (List.mem_of_getElem? (i := 5) rfl))) rfl rfl rfl (by decide +kernel) ⟨by rw [← hR]; exact Nat.le_of_ble_eq_true rfl, by rw [← hR]; exact Nat.le_of_ble_eq_true rfl⟩) ⟨fun a U g mk q => by obtain ⟨q0, q1, q2, qK, q10, q11, q12⟩ := q; exact ⟨q0, q1, q2, jG.calling g mk a qK, q10, q11, q12⟩, hh_40.recv (C := RX3) (T := TX3) (N := 4) hB5 rfl (by decide) hg_32 hK, fun U hU hW => ⟨rfl, hU, hh_40.2.1, hG.step hW hU hh_40.1, hg_32, jP.nil, by first | omega | rfl | assumption | decide | exact Or.inl rfl | exact Or.inr rfl | (simp only; omega)⟩⟩ rfl rfl hl.1 rfl (lv_room (Nat.le_of_ble_eq_true rfl)) dX5_intro_71 ⟨by rw [hRc]; omega, by rw [hRs]; omega⟩) hh_40.1 (fun q _ h => h) (fun q h => h) (fun r_42 u_41 t_41 H_41 locs_41 ht_41 hvm_41 hr_42 hb_41 hz_41 hk_41 hS_41 => ?_)
        rw [ht_41] at hb_41
        obtain ⟨m_ret_41, G_41⟩ := u_41
        simp only at hb_41
        obtain ⟨⟨hb_411, hb_412, hb_413, hb_414, hb_415, hb_416⟩, hN_41⟩ := hb_41
        have hh_41 : jSt (dC, dI) B base G0 G_41 EX5_intro s.heap ((0 + (1)) + (2)) ((0 + (80)) + (11)) [(r0, 7, 7, .ref termSize_27), (r0, 7, 6, .ref termFrom_24), (r1, 5, 3, .ref formula_13), (syntax_6, 12, 6, .ref told_9), (r0, 7, 1, .ref syntax_6), (r1, 5, 2, .ref hypotheses_3), (r0, 7, 10, .int pf)] [] [(jFg, jFr dC dI ca G_20 r0)] H_41 locs_41 := (hh_40.callG hb_411 hb_412 hb_413 hb_414 hb_415 hS_41 rfl (L1 := [(r0, 7, 7, .ref termSize_27), (r0, 7, 6, .ref termFrom_24), (r1, 5, 3, .ref formula_13), (syntax_6, 12, 6, .ref told_9), (r0, 7, 1, .ref syntax_6), (r1, 5, 2, .ref hypotheses_3), (r0, 7, 10, .int pf)]) [0, 1, 2, 3, 4, 5, 6] rfl rfl (M1 := []) [] rfl rfl (I1 := [(jFg, jFr dC dI ca G_20 r0)]) [0] rfl rfl).more hb_416
        have hNn_41 : (jNk [0, 1, 2, 3, 4, 6, 7, 8, 9, 10, 11, 12, 13, 14, 15, 16, 17, 175]) G0 G_41 := (hNn_20).tr hN_41
        have hg_43 := hb_412 _ _ hg_30
        have hg_44 := hb_412 _ _ hg_31
        have hg_45 := hb_412 _ _ hg_32
        have hg_46 := hb_412 _ _ hg_33
        have hg_47 := hb_412 _ _ hg_34
        have hg_48 := hb_412 _ _ hg_35
        have hg_49 := hb_412 _ _ hg_36
        have hg_50 := hb_412 _ _ hg_37
        have hd_51 := jFr.grow (hh_41.iv 0 rfl) hb_412
        have hh_52 := hh_41.sub (L1 := [(r0, 7, 7, .ref termSize_27), (r0, 7, 6, .ref termFrom_24), (r1, 5, 3, .ref formula_13), (syntax_6, 12, 6, .ref told_9), (r0, 7, 1, .ref syntax_6), (r1, 5, 2, .ref hypotheses_3), (r0, 7, 10, .int pf)]) [0, 1, 2, 3, 4, 5, 6] rfl (M1 := []) [] rfl (I1 := []) [] rfl
        clear hh_41
        have hh_53 := hh_52.addI (jFr.ie hd_51)
        clear hh_52
        obtain ⟨hr_42, hr_42n, hr_42p⟩ := hr_42
        try simp only at hr_42p
        obtain ⟨ret_54, rfl, hg_ret_54⟩ := hr_42
        have hsy_41 : s.heap.size ≤ ret_54 := Nat.le_trans hh_40.1.1 hr_42n.le
        have hsz_55 := hh_53.2.2.2.2.2.1
        have htt_55 := hh_53.2.2.2.2.2.2.1
        refine W.room (fun hrc_55 hrs_55 => ?_)
        refine va_calli (A0 := jA base) (H0 := s.heap) (va_runV (As := [.ref ret_54]) (rest := []) ⟨hx, hb, hml, hown, hts⟩ (uX5_add l dC dI ca base B hB hAp hB5 hB7 hB211 G_41 H_41 r0 ret_54 m_ret_41 pf) (cwV 1 hts (jgV (jWr_85 _ (List.mem_of_getElem? (i := 8) rfl)) (jWr_85 _ (List.mem_of_getElem? (i := 9) rfl)) (jWr_85 _ (List.mem_of_getElem? (i := 10) rfl)) (jWr_2 _ (List.mem_of_getElem? (i := 4) rfl)) (jWr_85 _ (List.mem_of_getElem? (i := 11) rfl))) rfl rfl rfl (by decide +kernel) ⟨by rw [← hR]; exact Nat.le_of_ble_eq_true rfl, by rw [← hR]; exact Nat.le_of_ble_eq_true rfl⟩) ⟨fun a U g mk q => by obtain ⟨q0, q1, q2, qK, q10, q11, q12, q13, q14, q15⟩ := q; exact ⟨q0, q1, q2, jG.calling g mk a qK, (va_K.moved (Vm.Alike.refl U.vm) q10), q11, q12, q13, q14, q15⟩, hh_53.recv (C := RX5) (T := TX5) (N := 11) hB7 rfl (by decide) hg_44 hK, fun U hU hW => ⟨rfl, hU, hh_53.2.1, hG.step hW hU hh_53.1, va_K.moved hW.alike hK2, hg_44, hg_ret_54, (hh_53.2.2.1.sub (L1 := [(r0, 7, 10, .int pf)]) [6] rfl), (hh_53.2.2.2.2.2.2.2.2.sub (L1 := [(jFg, jFr dC dI ca G_41 r0)]) [0] rfl), by first | omega | (refine ⟨?_, ?_, ?_⟩ <;> (first | omega | rfl | assumption | decide | exact Or.inl rfl | exact Or.inr rfl | (simp only; omega)))⟩⟩ rfl rfl hl.1 rfl (lv_room (Nat.le_of_ble_eq_true rfl)) dX5_intro_74 ⟨by rw [hRc]; show _ + 0 ≤ _; omega, by rw [hRs]; show _ + 0 ≤ _; omega⟩) hh_53.1 (fun q _ h => h) (fun q h => h) (fun r_56 u_55 t_55 H_55 locs_55 ht_55 hvm_55 hr_56 hb_55 hz_55 hk_55 hS_55 => ?_)
        obtain ⟨qf_55, rfl⟩ : ∃ z, z = u_55 := ⟨_, rfl⟩
        rw [ht_55] at hb_55
        obtain ⟨hb_55, hbE_55⟩ := hb_55
        obtain ⟨hb_551, hb_552, hb_553, hb_554, hb_555⟩ := hb_55
        have hh_55 : jSt (dC, dI) B base G0 G_41 EX5_intro s.heap ((0 + (1)) + (2)) ((0 + (80)) + (11)) [(r0, 7, 10, .int qf_55), (r0, 7, 7, .ref termSize_27), (r0, 7, 6, .ref termFrom_24), (r1, 5, 3, .ref formula_13), (syntax_6, 12, 6, .ref told_9), (r0, 7, 1, .ref syntax_6), (r1, 5, 2, .ref hypotheses_3)] [] [(jFg, jFr dC dI ca G_41 r0)] H_55 locs_55 := (((hh_53.call hb_551 hb_552 hb_553 hb_554 hS_55 rfl (L1 := [(r0, 7, 7, .ref termSize_27), (r0, 7, 6, .ref termFrom_24), (r1, 5, 3, .ref formula_13), (syntax_6, 12, 6, .ref told_9), (r0, 7, 1, .ref syntax_6), (r1, 5, 2, .ref hypotheses_3)]) [0, 1, 2, 3, 4, 5] rfl rfl (M1 := []) [] rfl rfl (I1 := []) [] rfl rfl).more hb_555)).addIs hbE_55
        clear hh_53 ht_55 hvm_55 hz_55 hk_55 hS_55 hb_551 hb_552 hb_553 hb_554 hb_555
        clear  hbE_55
        obtain ⟨hr_56_0, hr_56_1⟩ := hr_56
        refine lv_goto (tgt := 82) hx hb dX5_intro_77 (by decide) ?_
        have hsz_57 := hh_55.2.2.2.2.2.1
        have htt_57 := hh_55.2.2.2.2.2.2.1
        refine W.room (fun hrc_57 hrs_57 => ?_)
        refine W.widen (k := LC - s.heap.size) (n := LS - jTot s.heap) (by omega) (by omega) ?_
        rw [hQ]
        exact W.iret (v := r_56) hx hb hr (fun t ht hW => ⟨⟨r_56, (qf_55, G_41), rfl, by (try dsimp only); exact ⟨(by first | omega | rfl | assumption | fail), (by first | omega | rfl | assumption | fail)⟩, ⟨hh_55.ra (by first | omega | (simp only; omega)) (by first | omega | (simp only; omega)) (M1 := [(r0, 7, 10, .int qf_55)]) [0] rfl ht, hNn_41, by rw [ht]; exact hh_55.2.2.2.2.2.2.2.2.sub (L1 := [(jFg, jFr dC dI ca G_41 r0)]) [0] rfl⟩⟩, by rw [ht]; try exact hh_55.1.1, fun q h9 hq => by rw [ht]; try exact hh_55.1.2.1 q h9 hq⟩) hh_55.1.2.2 dX5_intro_82
      · skip
        obtain ⟨ret_58, rfl, hg_ret_58⟩ := hr_21
        have hsy_20 : s.heap.size ≤ ret_58 := Nat.le_trans hh_29.1.1 hr_21n.le
        have hsz_59 := hh_40.2.2.2.2.2.1
        have htt_59 := hh_40.2.2.2.2.2.2.1
        refine W.room (fun hrc_59 hrs_59 => ?_)
        refine j_callx (A0 := jA base) (H0 := s.heap) (va_runV (As := [.int z_10, .ref ret_58]) (rest := [.ref r0]) ⟨hx, hb, hml, hown, hts⟩ (uX3_withVariable l dC dI ca base B hB hAp hB5 hB101 hB280 hB313 G_20 H_20 r1 z_10 ret_58 n1 m_ret_20 LC LS) (cwV 2 hts (jgV (jWr_86 _ (List.mem_of_getElem? (i := 2) rfl)) (jWr_86 _ (List.mem_of_getElem? (i := 3) rfl)) (jWr_86 _ (List.mem_of_getElem? (i := 4) rfl)) (jWr_82 _ (List.mem_of_getElem? (i := 10) rfl)) (jWr_86 _ (List.mem_of_getElem? (i := 5) rfl))) rfl rfl rfl (by decide +kernel) ⟨by rw [← hR]; exact Nat.le_of_ble_eq_true rfl, by rw [← hR]; exact Nat.le_of_ble_eq_true rfl⟩) ⟨fun a U g mk q => by obtain ⟨q0, q1, q2, qK, q10, q11, q12, q13⟩ := q; exact ⟨q0, q1, q2, jG.calling g mk a qK, q10, q11, q12, q13⟩, hh_40.recv (C := RX3) (T := TX3) (N := 4) hB5 rfl (by decide) hg_32 hK, fun U hU hW => ⟨rfl, hU, hh_40.2.1, hG.step hW hU hh_40.1, hg_32, hg_ret_58, jP.nil, by first | omega | (refine ⟨?_, ?_⟩ <;> (first | omega | rfl | assumption | decide | exact Or.inl rfl | exact Or.inr rfl | (simp only; omega)))⟩⟩ rfl rfl hl.1 rfl (lv_room (Nat.le_of_ble_eq_true rfl)) dX5_intro_71 ⟨by rw [hRc]; omega, by rw [hRs]; omega⟩) hh_40.1 (fun q _ h => h) (fun q h => h) (fun r_60 u_59 t_59 H_59 locs_59 ht_59 hvm_59 hr_60 hb_59 hz_59 hk_59 hS_59 => ?_)
        rw [ht_59] at hb_59
        obtain ⟨m_ret_59, G_59⟩ := u_59
        simp only at hb_59
        obtain ⟨⟨hb_591, hb_592, hb_593, hb_594, hb_595, hb_596⟩, hN_59⟩ := hb_59
        have hh_59 : jSt (dC, dI) B base G0 G_59 EX5_intro s.heap ((0 + (1)) + (2)) ((0 + (80)) + (11)) [(r0, 7, 7, .ref termSize_27), (r0, 7, 6, .ref termFrom_24), (r1, 5, 3, .ref formula_13), (syntax_6, 12, 6, .ref told_9), (r0, 7, 1, .ref syntax_6), (r1, 5, 2, .ref hypotheses_3), (r0, 7, 10, .int pf)] [] [(jFg, jFr dC dI ca G_20 r0)] H_59 locs_59 := (hh_40.callG hb_591 hb_592 hb_593 hb_594 hb_595 hS_59 rfl (L1 := [(r0, 7, 7, .ref termSize_27), (r0, 7, 6, .ref termFrom_24), (r1, 5, 3, .ref formula_13), (syntax_6, 12, 6, .ref told_9), (r0, 7, 1, .ref syntax_6), (r1, 5, 2, .ref hypotheses_3), (r0, 7, 10, .int pf)]) [0, 1, 2, 3, 4, 5, 6] rfl rfl (M1 := []) [] rfl rfl (I1 := [(jFg, jFr dC dI ca G_20 r0)]) [0] rfl rfl).more hb_596
        have hNn_59 : (jNk [0, 1, 2, 3, 4, 6, 7, 8, 9, 10, 11, 12, 13, 14, 15, 16, 17, 175]) G0 G_59 := (hNn_20).tr hN_59
        have hg_61 := hb_592 _ _ hg_30
        have hg_62 := hb_592 _ _ hg_31
        have hg_63 := hb_592 _ _ hg_32
        have hg_64 := hb_592 _ _ hg_33
        have hg_65 := hb_592 _ _ hg_34
        have hg_66 := hb_592 _ _ hg_35
        have hg_67 := hb_592 _ _ hg_36
        have hg_68 := hb_592 _ _ hg_37
        have hd_69 := jFr.grow (hh_59.iv 0 rfl) hb_592
        have hh_70 := hh_59.sub (L1 := [(r0, 7, 7, .ref termSize_27), (r0, 7, 6, .ref termFrom_24), (r1, 5, 3, .ref formula_13), (syntax_6, 12, 6, .ref told_9), (r0, 7, 1, .ref syntax_6), (r1, 5, 2, .ref hypotheses_3), (r0, 7, 10, .int pf)]) [0, 1, 2, 3, 4, 5, 6] rfl (M1 := []) [] rfl (I1 := []) [] rfl
        clear hh_59
        have hh_71 := hh_70.addI (jFr.ie hd_69)
        clear hh_70
        obtain ⟨hr_60, hr_60n, hr_60p⟩ := hr_60
        try simp only at hr_60p
        obtain ⟨hr_60p_0, hr_60p_1⟩ := hr_60p
        obtain ⟨ret_72, rfl, hg_ret_72⟩ := hr_60
        have hsy_59 : s.heap.size ≤ ret_72 := Nat.le_trans hh_40.1.1 hr_60n.le
        have hsz_73 := hh_71.2.2.2.2.2.1
        have htt_73 := hh_71.2.2.2.2.2.2.1
        refine W.room (fun hrc_73 hrs_73 => ?_)
        refine va_calli (A0 := jA base) (H0 := s.heap) (va_runV (As := [.ref ret_72]) (rest := []) ⟨hx, hb, hml, hown, hts⟩ (uX5_add l dC dI ca base B hB hAp hB5 hB7 hB211 G_59 H_59 r0 ret_72 m_ret_59 pf) (cwV 1 hts (jgV (jWr_85 _ (List.mem_of_getElem? (i := 8) rfl)) (jWr_85 _ (List.mem_of_getElem? (i := 9) rfl)) (jWr_85 _ (List.mem_of_getElem? (i := 10) rfl)) (jWr_2 _ (List.mem_of_getElem? (i := 4) rfl)) (jWr_85 _ (List.mem_of_getElem? (i := 11) rfl))) rfl rfl rfl (by decide +kernel) ⟨by rw [← hR]; exact Nat.le_of_ble_eq_true rfl, by rw [← hR]; exact Nat.le_of_ble_eq_true rfl⟩) ⟨fun a U g mk q => by obtain ⟨q0, q1, q2, qK, q10, q11, q12, q13, q14, q15⟩ := q; exact ⟨q0, q1, q2, jG.calling g mk a qK, (va_K.moved (Vm.Alike.refl U.vm) q10), q11, q12, q13, q14, q15⟩, hh_71.recv (C := RX5) (T := TX5) (N := 11) hB7 rfl (by decide) hg_62 hK, fun U hU hW => ⟨rfl, hU, hh_71.2.1, hG.step hW hU hh_71.1, va_K.moved hW.alike hK2, hg_62, hg_ret_72, (hh_71.2.2.1.sub (L1 := [(r0, 7, 10, .int pf)]) [6] rfl), (hh_71.2.2.2.2.2.2.2.2.sub (L1 := [(jFg, jFr dC dI ca G_59 r0)]) [0] rfl), by first | omega | (refine ⟨?_, ?_, ?_⟩ <;> (first | omega | rfl | assumption | decide | exact Or.inl rfl | exact Or.inr rfl | (simp only; omega)))⟩⟩ rfl rfl hl.1 rfl (lv_room (Nat.le_of_ble_eq_true rfl)) dX5_intro_74 ⟨by rw [hRc]; show _ + 0 ≤ _; omega, by rw [hRs]; show _ + 0 ≤ _; omega⟩) hh_71.1 (fun q _ h => h) (fun q h => h) (fun r_74 u_73 t_73 H_73 locs_73 ht_73 hvm_73 hr_74 hb_73 hz_73 hk_73 hS_73 => ?_)
        obtain ⟨qf_73, rfl⟩ : ∃ z, z = u_73 := ⟨_, rfl⟩
        rw [ht_73] at hb_73
        obtain ⟨hb_73, hbE_73⟩ := hb_73
        obtain ⟨hb_731, hb_732, hb_733, hb_734, hb_735⟩ := hb_73
        have hh_73 : jSt (dC, dI) B base G0 G_59 EX5_intro s.heap ((0 + (1)) + (2)) ((0 + (80)) + (11)) [(r0, 7, 10, .int qf_73), (r0, 7, 7, .ref termSize_27), (r0, 7, 6, .ref termFrom_24), (r1, 5, 3, .ref formula_13), (syntax_6, 12, 6, .ref told_9), (r0, 7, 1, .ref syntax_6), (r1, 5, 2, .ref hypotheses_3)] [] [(jFg, jFr dC dI ca G_59 r0)] H_73 locs_73 := (((hh_71.call hb_731 hb_732 hb_733 hb_734 hS_73 rfl (L1 := [(r0, 7, 7, .ref termSize_27), (r0, 7, 6, .ref termFrom_24), (r1, 5, 3, .ref formula_13), (syntax_6, 12, 6, .ref told_9), (r0, 7, 1, .ref syntax_6), (r1, 5, 2, .ref hypotheses_3)]) [0, 1, 2, 3, 4, 5] rfl rfl (M1 := []) [] rfl rfl (I1 := []) [] rfl rfl).more hb_735)).addIs hbE_73
        clear hh_71 ht_73 hvm_73 hz_73 hk_73 hS_73 hb_731 hb_732 hb_733 hb_734 hb_735
        clear  hbE_73
        obtain ⟨hr_74_0, hr_74_1⟩ := hr_74
        refine lv_goto (tgt := 82) hx hb dX5_intro_77 (by decide) ?_
        have hsz_75 := hh_73.2.2.2.2.2.1
        have htt_75 := hh_73.2.2.2.2.2.2.1
        refine W.room (fun hrc_75 hrs_75 => ?_)
        refine W.widen (k := LC - s.heap.size) (n := LS - jTot s.heap) (by omega) (by omega) ?_
        rw [hQ]
        exact W.iret (v := r_74) hx hb hr (fun t ht hW => ⟨⟨r_74, (qf_73, G_59), rfl, by (try dsimp only); exact ⟨(by first | omega | rfl | assumption | fail), (by first | omega | rfl | assumption | fail)⟩, ⟨hh_73.ra (by first | omega | (simp only; omega)) (by first | omega | (simp only; omega)) (M1 := [(r0, 7, 10, .int qf_73)]) [0] rfl ht, hNn_59, by rw [ht]; exact hh_73.2.2.2.2.2.2.2.2.sub (L1 := [(jFg, jFr dC dI ca G_59 r0)]) [0] rfl⟩⟩, by rw [ht]; try exact hh_73.1.1, fun q h9 hq => by rw [ht]; try exact hh_73.1.2.1 q h9 hq⟩) hh_73.1.2.2 dX5_intro_82
  · skip
    have c_14' : a2.toInt = 1 := jb_ne_n (rfl) ((by decide)) c_14
    refine lv_aload_n hx hb dX5_intro_22 rfl (lv_at hl 2 rfl) ?_
    refine lv_aload_n hx hb dX5_intro_23 rfl (lv_at hl 3 rfl) ?_
    refine lv_iload hx hb dX5_intro_24 (lv_at hl 1 rfl) ?_
    refine lv_aload hx hb dX5_intro_26 (lv_at hl 0 rfl) ?_
    refine lv_iconst (v := 1) hx hb dX5_intro_28 (by decide) ?_
    refine lv_iload_n hx hb dX5_intro_29 rfl (lv_at hl 5 rfl) ?_
    have hsz_76 := hh_12.2.2.2.2.2.1
    have htt_76 := hh_12.2.2.2.2.2.2.1
    refine W.room (fun hrc_76 hrs_76 => ?_)
    refine j_callx (A0 := jA base) (H0 := s.heap) (va_runS (As := [.ref formula_13, .int 1, .int a3]) (rest := [.int z_10, .ref r1, .ref r0]) ⟨hx, hb, hml, hown, hts⟩ (uX5_part l dC dI ca base B hB hAp hB280 G0 s.heap formula_13 1 a3 nformula_13 LC LS) (va_cwS 3 hts (jgS (jWr_84 _ (List.mem_of_getElem? (i := 20) rfl)) (jWr_84 _ (List.mem_of_getElem? (i := 21) rfl)) (jWr_2 _ (List.mem_of_getElem? (i := 4) rfl)) (jWr_84 _ (List.mem_of_getElem? (i := 22) rfl))) rfl rfl rfl (by decide +kernel) ⟨by rw [← hR]; exact Nat.le_of_ble_eq_true rfl, by rw [← hR]; exact Nat.le_of_ble_eq_true rfl⟩) ⟨fun a U g mk q => by obtain ⟨q0, q1, q2, qK, q10, q11, q12⟩ := q; exact ⟨q0, q1, q2, jG.calling g mk a qK, q10, q11, q12⟩, fun U hU hW => ⟨rfl, hU, hh_12.2.1, hG.step hW hU hh_12.1, hg_formula_13, jP.nil, by first | omega | (refine ⟨?_, ?_⟩ <;> (first | omega | rfl | assumption | decide | exact Or.inl rfl | exact Or.inr rfl | (simp only; omega)))⟩⟩ rfl rfl hl.1 rfl (lv_room (Nat.le_of_ble_eq_true rfl)) dX5_intro_30 ⟨by rw [hRc]; omega, by rw [hRs]; omega⟩) hh_12.1 (fun q _ h => h) (fun q h => h) (fun r_77 u_76 t_76 H_76 locs_76 ht_76 hvm_76 hr_77 hb_76 hz_76 hk_76 hS_76 => ?_)
    rw [ht_76] at hb_76
    obtain ⟨m_ret_76, G_76⟩ := u_76
    simp only at hb_76
    obtain ⟨⟨hb_761, hb_762, hb_763, hb_764, hb_765, hb_766⟩, hN_76, hbK_76⟩ := hb_76
    have hN_76 : (jNk [0, 1, 2, 3, 4, 6, 7, 8, 9, 10, 11, 12, 13, 14, 15, 16, 17, 175]) G0 G_76 := hN_76.sub (by decide)
    have hh_76 : jSt (dC, dI) B base G0 G_76 EX5_intro s.heap (0 + (1)) (0 + (m_ret_76)) [(r1, 5, 3, .ref formula_13), (syntax_6, 12, 6, .ref told_9), (r0, 7, 1, .ref syntax_6), (r1, 5, 2, .ref hypotheses_3), (r0, 7, 10, .int pf)] [] [(jFg, jFr dC dI ca G0 r0)] H_76 locs_76 := (hh_12.callG hb_761 hb_762 hb_763 hb_764 hb_765 hS_76 rfl (L1 := [(r1, 5, 3, .ref formula_13), (syntax_6, 12, 6, .ref told_9), (r0, 7, 1, .ref syntax_6), (r1, 5, 2, .ref hypotheses_3), (r0, 7, 10, .int pf)]) [0, 1, 2, 3, 4] rfl rfl (M1 := []) [] rfl rfl (I1 := [(jFg, jFr dC dI ca G0 r0)]) [0] rfl rfl).more hb_766
    have hNn_76 : (jNk [0, 1, 2, 3, 4, 6, 7, 8, 9, 10, 11, 12, 13, 14, 15, 16, 17, 175]) G0 G_76 := (jNk.rf).tr hN_76
    have hg_78 := hb_762 _ _ hg_formula_13
    have hg_79 := hb_762 _ _ hg_r0
    have hg_80 := hb_762 _ _ hg_r1
    have hg_81 := hb_762 _ _ hg_told_9
    have hg_82 := hb_762 _ _ hg_syntax_6
    have hg_83 := hb_762 _ _ hg_hypotheses_3
    have hd_84 := jFr.grow (hh_76.iv 0 rfl) hb_762
    have hh_85 := hh_76.sub (L1 := [(r1, 5, 3, .ref formula_13), (syntax_6, 12, 6, .ref told_9), (r0, 7, 1, .ref syntax_6), (r1, 5, 2, .ref hypotheses_3), (r0, 7, 10, .int pf)]) [0, 1, 2, 3, 4] rfl (M1 := []) [] rfl (I1 := []) [] rfl
    clear hh_76
    have hh_86 := hh_85.addI (jFr.ie hd_84)
    clear hh_85
    obtain ⟨hr_77, hr_77n, hr_77p⟩ := hr_77
    try simp only at hr_77p
    obtain ⟨ret_87, rfl, hg_ret_87⟩ := hr_77
    have hsy_76 : s.heap.size ≤ ret_87 := Nat.le_trans hh_12.1.1 hr_77n.le
    refine lv_aload hx hb dX5_intro_33 (lv_at hl 0 rfl) ?_
    refine lv_iload_n hx hb dX5_intro_35 rfl (lv_at hl 5 rfl) ?_
    refine lv_aload hx hb dX5_intro_36 (lv_at hl 0 rfl) ?_
    refine j7_len hx hb hK hh_86 hB280 1 rfl (by decide) hg_78 (by omega) dX5_intro_38 (fun z_88 hz_88 => ?_)
    have hsz_89 := hh_86.2.2.2.2.2.1
    have htt_89 := hh_86.2.2.2.2.2.2.1
    refine W.room (fun hrc_89 hrs_89 => ?_)
    refine j_callx (A0 := jA base) (H0 := s.heap) (va_runS (As := [.ref formula_13, .int a3, .int z_88]) (rest := [.ref ret_87, .int z_10, .ref r1, .ref r0]) ⟨hx, hb, hml, hown, hts⟩ (uX5_part l dC dI ca base B hB hAp hB280 G_76 H_76 formula_13 a3 z_88 nformula_13 LC LS) (va_cwS 3 hts (jgS (jWr_84 _ (List.mem_of_getElem? (i := 20) rfl)) (jWr_84 _ (List.mem_of_getElem? (i := 21) rfl)) (jWr_2 _ (List.mem_of_getElem? (i := 4) rfl)) (jWr_84 _ (List.mem_of_getElem? (i := 22) rfl))) rfl rfl rfl (by decide +kernel) ⟨by rw [← hR]; exact Nat.le_of_ble_eq_true rfl, by rw [← hR]; exact Nat.le_of_ble_eq_true rfl⟩) ⟨fun a U g mk q => by obtain ⟨q0, q1, q2, qK, q10, q11, q12⟩ := q; exact ⟨q0, q1, q2, jG.calling g mk a qK, q10, q11, q12⟩, fun U hU hW => ⟨rfl, hU, hh_86.2.1, hG.step hW hU hh_86.1, hg_78, jP.nil, by first | omega | (refine ⟨?_, ?_⟩ <;> (first | omega | rfl | assumption | decide | exact Or.inl rfl | exact Or.inr rfl | (simp only; omega)))⟩⟩ rfl rfl hl.1 rfl (lv_room (Nat.le_of_ble_eq_true rfl)) dX5_intro_39 ⟨by rw [hRc]; omega, by rw [hRs]; omega⟩) hh_86.1 (fun q _ h => h) (fun q h => h) (fun r_90 u_89 t_89 H_89 locs_89 ht_89 hvm_89 hr_90 hb_89 hz_89 hk_89 hS_89 => ?_)
    rw [ht_89] at hb_89
    obtain ⟨m_ret_89, G_89⟩ := u_89
    simp only at hb_89
    obtain ⟨⟨hb_891, hb_892, hb_893, hb_894, hb_895, hb_896⟩, hN_89, hbK_89⟩ := hb_89
    have hN_89 : (jNk [0, 1, 2, 3, 4, 6, 7, 8, 9, 10, 11, 12, 13, 14, 15, 16, 17, 175]) G_76 G_89 := hN_89.sub (by decide)
    have hh_89 : jSt (dC, dI) B base G0 G_89 EX5_intro s.heap ((0 + (1)) + (1)) ((0 + (m_ret_76)) + (m_ret_89)) [(r1, 5, 3, .ref formula_13), (syntax_6, 12, 6, .ref told_9), (r0, 7, 1, .ref syntax_6), (r1, 5, 2, .ref hypotheses_3), (r0, 7, 10, .int pf)] [] [(jFg, jFr dC dI ca G_76 r0)] H_89 locs_89 := (hh_86.callG hb_891 hb_892 hb_893 hb_894 hb_895 hS_89 rfl (L1 := [(r1, 5, 3, .ref formula_13), (syntax_6, 12, 6, .ref told_9), (r0, 7, 1, .ref syntax_6), (r1, 5, 2, .ref hypotheses_3), (r0, 7, 10, .int pf)]) [0, 1, 2, 3, 4] rfl rfl (M1 := []) [] rfl rfl (I1 := [(jFg, jFr dC dI ca G_76 r0)]) [0] rfl rfl).more hb_896
    have hNn_89 : (jNk [0, 1, 2, 3, 4, 6, 7, 8, 9, 10, 11, 12, 13, 14, 15, 16, 17, 175]) G0 G_89 := (hNn_76).tr hN_89
    have hg_91 := hb_892 _ _ hg_78
    have hg_92 := hb_892 _ _ hg_79
    have hg_93 := hb_892 _ _ hg_80
    have hg_94 := hb_892 _ _ hg_ret_87
    have hg_95 := hb_892 _ _ hg_81
    have hg_96 := hb_892 _ _ hg_82
    have hg_97 := hb_892 _ _ hg_83
    have hd_98 := jFr.grow (hh_89.iv 0 rfl) hb_892
    have hh_99 := hh_89.sub (L1 := [(r1, 5, 3, .ref formula_13), (syntax_6, 12, 6, .ref told_9), (r0, 7, 1, .ref syntax_6), (r1, 5, 2, .ref hypotheses_3), (r0, 7, 10, .int pf)]) [0, 1, 2, 3, 4] rfl (M1 := []) [] rfl (I1 := []) [] rfl
    clear hh_89
    have hh_100 := hh_99.addI (jFr.ie hd_98)
    clear hh_99
    obtain ⟨hr_90, hr_90n, hr_90p⟩ := hr_90
    try simp only at hr_90p
    obtain ⟨ret_101, rfl, hg_ret_101⟩ := hr_90
    have hsy_89 : s.heap.size ≤ ret_101 := Nat.le_trans hh_86.1.1 hr_90n.le
    have hsz_102 := hh_100.2.2.2.2.2.1
    have htt_102 := hh_100.2.2.2.2.2.2.1
    refine W.room (fun hrc_102 hrs_102 => ?_)
    refine j_callx (A0 := jA base) (H0 := s.heap) (va_runV (As := [.int z_10, .ref ret_87, .ref ret_101]) (rest := [.ref r0]) ⟨hx, hb, hml, hown, hts⟩ (uX3_withHypothesis l dC dI ca base B hB hAp hB5 hB101 hB280 hB313 G_89 H_89 r1 z_10 ret_87 ret_101 n1 m_ret_76 m_ret_89 LC LS) (cwV 3 hts (jgV (jWr_85 _ (List.mem_of_getElem? (i := 0) rfl)) (jWr_85 _ (List.mem_of_getElem? (i := 1) rfl)) (jWr_85 _ (List.mem_of_getElem? (i := 2) rfl)) (jWr_82 _ (List.mem_of_getElem? (i := 10) rfl)) (jWr_85 _ (List.mem_of_getElem? (i := 3) rfl))) rfl rfl rfl (by decide +kernel) ⟨by rw [← hR]; exact Nat.le_of_ble_eq_true rfl, by rw [← hR]; exact Nat.le_of_ble_eq_true rfl⟩) ⟨fun a U g mk q => by obtain ⟨q0, q1, q2, qK, q10, q11, q12, q13, q14, q15⟩ := q; exact ⟨q0, q1, q2, jG.calling g mk a qK, (jK5.moved (Vm.Alike.refl U.vm) q10), q11, q12, q13, q14, q15⟩, hh_100.recv (C := RX3) (T := TX3) (N := 4) hB5 rfl (by decide) hg_93 hK, fun U hU hW => ⟨rfl, hU, hh_100.2.1, hG.step hW hU hh_100.1, jK5.moved hW.alike hK5, hg_93, hg_94, hg_ret_101, jP.nil, by first | omega | (refine ⟨?_, ?_, ?_, ?_⟩ <;> (first | omega | rfl | assumption | decide | exact Or.inl rfl | exact Or.inr rfl | (simp only; omega)))⟩⟩ rfl rfl hl.1 rfl (lv_room (Nat.le_of_ble_eq_true rfl)) dX5_intro_42 ⟨by rw [hRc]; omega, by rw [hRs]; omega⟩) hh_100.1 (fun q _ h => h) (fun q h => h) (fun r_103 u_102 t_102 H_102 locs_102 ht_102 hvm_102 hr_103 hb_102 hz_102 hk_102 hS_102 => ?_)
    rw [ht_102] at hb_102
    obtain ⟨m_ret_102, G_102⟩ := u_102
    simp only at hb_102
    obtain ⟨⟨hb_1021, hb_1022, hb_1023, hb_1024, hb_1025, hb_1026⟩, hN_102⟩ := hb_102
    have hh_102 : jSt (dC, dI) B base G0 G_102 EX5_intro s.heap (((0 + (1)) + (1)) + (3)) (((0 + (m_ret_76)) + (m_ret_89)) + (24)) [(r1, 5, 3, .ref formula_13), (syntax_6, 12, 6, .ref told_9), (r0, 7, 1, .ref syntax_6), (r1, 5, 2, .ref hypotheses_3), (r0, 7, 10, .int pf)] [] [(jFg, jFr dC dI ca G_89 r0)] H_102 locs_102 := (hh_100.callG hb_1021 hb_1022 hb_1023 hb_1024 hb_1025 hS_102 rfl (L1 := [(r1, 5, 3, .ref formula_13), (syntax_6, 12, 6, .ref told_9), (r0, 7, 1, .ref syntax_6), (r1, 5, 2, .ref hypotheses_3), (r0, 7, 10, .int pf)]) [0, 1, 2, 3, 4] rfl rfl (M1 := []) [] rfl rfl (I1 := [(jFg, jFr dC dI ca G_89 r0)]) [0] rfl rfl).more hb_1026
    have hNn_102 : (jNk [0, 1, 2, 3, 4, 6, 7, 8, 9, 10, 11, 12, 13, 14, 15, 16, 17, 175]) G0 G_102 := (hNn_89).tr hN_102
    have hg_104 := hb_1022 _ _ hg_91
    have hg_105 := hb_1022 _ _ hg_92
    have hg_106 := hb_1022 _ _ hg_93
    have hg_107 := hb_1022 _ _ hg_95
    have hg_108 := hb_1022 _ _ hg_96
    have hg_109 := hb_1022 _ _ hg_97
    have hd_110 := jFr.grow (hh_102.iv 0 rfl) hb_1022
    have hh_111 := hh_102.sub (L1 := [(r1, 5, 3, .ref formula_13), (syntax_6, 12, 6, .ref told_9), (r0, 7, 1, .ref syntax_6), (r1, 5, 2, .ref hypotheses_3), (r0, 7, 10, .int pf)]) [0, 1, 2, 3, 4] rfl (M1 := []) [] rfl (I1 := []) [] rfl
    clear hh_102
    have hh_112 := hh_111.addI (jFr.ie hd_110)
    clear hh_111
    obtain ⟨hr_103, hr_103n, hr_103p⟩ := hr_103
    try simp only at hr_103p
    obtain ⟨hr_103p_0, hr_103p_1⟩ := hr_103p
    obtain ⟨ret_113, rfl, hg_ret_113⟩ := hr_103
    have hsy_102 : s.heap.size ≤ ret_113 := Nat.le_trans hh_100.1.1 hr_103n.le
    have hsz_114 := hh_112.2.2.2.2.2.1
    have htt_114 := hh_112.2.2.2.2.2.2.1
    refine W.room (fun hrc_114 hrs_114 => ?_)
    refine va_calli (A0 := jA base) (H0 := s.heap) (va_runV (As := [.ref ret_113]) (rest := []) ⟨hx, hb, hml, hown, hts⟩ (uX5_add l dC dI ca base B hB hAp hB5 hB7 hB211 G_102 H_102 r0 ret_113 m_ret_102 pf) (cwV 1 hts (jgV (jWr_85 _ (List.mem_of_getElem? (i := 8) rfl)) (jWr_85 _ (List.mem_of_getElem? (i := 9) rfl)) (jWr_85 _ (List.mem_of_getElem? (i := 10) rfl)) (jWr_2 _ (List.mem_of_getElem? (i := 4) rfl)) (jWr_85 _ (List.mem_of_getElem? (i := 11) rfl))) rfl rfl rfl (by decide +kernel) ⟨by rw [← hR]; exact Nat.le_of_ble_eq_true rfl, by rw [← hR]; exact Nat.le_of_ble_eq_true rfl⟩) ⟨fun a U g mk q => by obtain ⟨q0, q1, q2, qK, q10, q11, q12, q13, q14, q15⟩ := q; exact ⟨q0, q1, q2, jG.calling g mk a qK, (va_K.moved (Vm.Alike.refl U.vm) q10), q11, q12, q13, q14, q15⟩, hh_112.recv (C := RX5) (T := TX5) (N := 11) hB7 rfl (by decide) hg_105 hK, fun U hU hW => ⟨rfl, hU, hh_112.2.1, hG.step hW hU hh_112.1, va_K.moved hW.alike hK2, hg_105, hg_ret_113, (hh_112.2.2.1.sub (L1 := [(r0, 7, 10, .int pf)]) [4] rfl), (hh_112.2.2.2.2.2.2.2.2.sub (L1 := [(jFg, jFr dC dI ca G_102 r0)]) [0] rfl), by first | omega | (refine ⟨?_, ?_, ?_⟩ <;> (first | omega | rfl | assumption | decide | exact Or.inl rfl | exact Or.inr rfl | (simp only; omega)))⟩⟩ rfl rfl hl.1 rfl (lv_room (Nat.le_of_ble_eq_true rfl)) dX5_intro_45 ⟨by rw [hRc]; show _ + 0 ≤ _; omega, by rw [hRs]; show _ + 0 ≤ _; omega⟩) hh_112.1 (fun q _ h => h) (fun q h => h) (fun r_115 u_114 t_114 H_114 locs_114 ht_114 hvm_114 hr_115 hb_114 hz_114 hk_114 hS_114 => ?_)
    obtain ⟨qf_114, rfl⟩ : ∃ z, z = u_114 := ⟨_, rfl⟩
    rw [ht_114] at hb_114
    obtain ⟨hb_114, hbE_114⟩ := hb_114
    obtain ⟨hb_1141, hb_1142, hb_1143, hb_1144, hb_1145⟩ := hb_114
    have hh_114 : jSt (dC, dI) B base G0 G_102 EX5_intro s.heap (((0 + (1)) + (1)) + (3)) (((0 + (m_ret_76)) + (m_ret_89)) + (24)) [(r0, 7, 10, .int qf_114), (r1, 5, 3, .ref formula_13), (syntax_6, 12, 6, .ref told_9), (r0, 7, 1, .ref syntax_6), (r1, 5, 2, .ref hypotheses_3)] [] [(jFg, jFr dC dI ca G_102 r0)] H_114 locs_114 := (((hh_112.call hb_1141 hb_1142 hb_1143 hb_1144 hS_114 rfl (L1 := [(r1, 5, 3, .ref formula_13), (syntax_6, 12, 6, .ref told_9), (r0, 7, 1, .ref syntax_6), (r1, 5, 2, .ref hypotheses_3)]) [0, 1, 2, 3] rfl rfl (M1 := []) [] rfl rfl (I1 := []) [] rfl rfl).more hb_1145)).addIs hbE_114
    clear hh_112 ht_114 hvm_114 hz_114 hk_114 hS_114 hb_1141 hb_1142 hb_1143 hb_1144 hb_1145
    clear  hbE_114
    obtain ⟨hr_115_0, hr_115_1⟩ := hr_115
    have hsz_116 := hh_114.2.2.2.2.2.1
    have htt_116 := hh_114.2.2.2.2.2.2.1
    refine W.room (fun hrc_116 hrs_116 => ?_)
    refine W.widen (k := LC - s.heap.size) (n := LS - jTot s.heap) (by omega) (by omega) ?_
    rw [hQ]
    exact W.iret (v := r_115) hx hb hr (fun t ht hW => ⟨⟨r_115, (qf_114, G_102), rfl, by (try dsimp only); exact ⟨(by first | omega | rfl | assumption | fail), (by first | omega | rfl | assumption | fail)⟩, ⟨hh_114.ra (by first | omega | (simp only; omega)) (by first | omega | (simp only; omega)) (M1 := [(r0, 7, 10, .int qf_114)]) [0] rfl ht, hNn_102, by rw [ht]; exact hh_114.2.2.2.2.2.2.2.2.sub (L1 := [(jFg, jFr dC dI ca G_102 r0)]) [0] rfl⟩⟩, by rw [ht]; try exact hh_114.1.1, fun q h9 hq => by rw [ht]; try exact hh_114.1.2.1 q h9 hq⟩) hh_114.1.2.2 dX5_intro_48
set_option maxHeartbeats 4000000 in
set_option maxRecDepth 20000 in
theorem uX5_use (l : Launch) (dC : Nat → ClassId) (dI : Nat → Nat → Nat) (ca : Nat → ClassId) (base : Nat) (B : jF) (hB : jBok B) (hAp : jAp (dC, dI)) (hB5 : ∀ n G a H, B 5 n G a H ↔ jOb (dC, dI) 5 4 (F5 n G) a H) (hB7 : ∀ n G a H, B 7 n G a H ↔ jOb (dC, dI) 7 11 (F7 n G) a H) (hB12 : ∀ n G a H, B 12 n G a H ↔ jOb (dC, dI) 12 11 (F12b n G) a H) (hB101 : ∀ n G a H, B 101 n G a H ↔ jAr (dC, dI) (ca 1) (fun j z => True) n a H) (hB211 : ∀ n G a H, B 211 n G a H ↔ jAq (dC, dI) (ca 7) (jQh) n G a H) (hB280 : ∀ n G a H, B 280 n G a H ↔ jAr (dC, dI) (ca 1) (fun j z => -1 ≤ z.toInt) n a H) (hB290 : ∀ n G a H, B 290 n G a H ↔ jAr (dC, dI) (ca 1) (fun j z => 0 ≤ z.toInt ∧ z.toInt ≤ 3000) n a H) (hB291 : ∀ n G a H, B 291 n G a H ↔ jAr (dC, dI) (ca 1) (fun j z => 0 ≤ z.toInt ∧ z.toInt ≤ 3000) n a H) (hB292 : ∀ n G a H, B 292 n G a H ↔ jAr (dC, dI) (ca 1) (fun j z => 0 ≤ z.toInt ∧ z.toInt ≤ 8191) n a H) (hB313 : ∀ n G a H, B 313 n G a H ↔ jAq (dC, dI) (ca 8) (jQk 280 80) n G a H) (hB315 : ∀ n G a H, B 315 n G a H ↔ jAqZ (dC, dI) (ca 8) n a H) (G0 : jT) (H0 : Heap) (r0 : Nat) (r1 : Nat) (r2 : Nat) (n1 : Nat) (n2 : Nat) (pf : Int32) (LC LS : Nat) : Met l yX5_use (jw yX5_use cX5_use 3 (some .int)) ({ frames := 4, cells := LC - H0.size, slots := LS - jTot H0, locals := 128 }) (va_Pc [.ref r0, .ref r1, .ref r2] (fun U => U.heap = H0 ∧ jX B base G0 [] H0 ∧ jG dC dI ca base U ∧ jK2 dC dI ca U ∧ jK5 dC dI ca U ∧ G0 r0 = some (7, 0) ∧ G0 r1 = some (5, n1) ∧ G0 r2 = some (280, n2) ∧ jP (dC, dI) G0 H0 [(r0, 7, 10, .int pf)] ∧ jIs (dC, dI) G0 H0 [(jFg, jFr dC dI ca G0 r0)] ∧ H0.size + 4 ≤ LC ∧ jTot H0 + 120 ≤ LS ∧ 0 ≤ pf.toInt ∧ pf.toInt ≤ 100 ∧ n1 % 10 = 1 ∧ n2 ≤ 80)) (va_Qi (S := Int32 × jT) (fun r u => (pf.toInt ≤ u.1.toInt ∧ u.1.toInt ≤ pf.toInt + 1)) (fun u t => jRa (dC, dI) B base G0 u.2 EX5_use H0 (4) (120) [(r0, 7, 10, .int u.1)] t.heap ∧ (jNk [0, 1, 2, 3, 4, 6, 7, 8, 9, 10, 11, 12, 13, 14, 15, 16, 17, 175]) G0 u.2 ∧ jIs (dC, dI) u.2 t.heap [(jFg, jFr dC dI ca u.2 r0)]) (jA base)) (LC - H0.size) (LS - jTot H0) (jA base) := by
  refine Met.ofW (cc := cX5_use) (maxL := 3) (ret := (some .int)) (by decide) rfl ?_
  intro p e s m args below meth c s₁ Bd hml hv
  obtain ⟨rfl, hH0, hX, hG, hK2, hK5, hg_r0, hg_r1, hg_r2, hP0, hI0, hLC0, hLS0, hp0, hp1, hp2, hp3⟩ := hv
  have hK := hG.1
  have hx := Bd.exec
  have hb := Bd.bytes
  have hr := Bd.returns
  have hts := atoms_spec (ws := (jw yX5_use cX5_use 3 (some .int))) Bd.pre
  have htw : ∀ w ∈ jWl, w.before _ s = true := fun w h => hts w (List.mem_cons_of_mem _ h)
  have hown : s.vm.findClass RX5 = some m.cls := findClass_of_methodNamed Bd.named
  have hlocks := Bd.notSynchronized
  obtain ⟨Q, hQ⟩ : ∃ Q, Q = MQ below (va_Qi (S := Int32 × jT) (fun r u => (pf.toInt ≤ u.1.toInt ∧ u.1.toInt ≤ pf.toInt + 1)) (fun u t => jRa (dC, dI) B base G0 u.2 EX5_use H0 (4) (120) [(r0, 7, 10, .int u.1)] t.heap ∧ (jNk [0, 1, 2, 3, 4, 6, 7, 8, 9, 10, 11, 12, 13, 14, 15, 16, 17, 175]) G0 u.2 ∧ jIs (dC, dI) u.2 t.heap [(jFg, jFr dC dI ca u.2 r0)]) (jA base)) ([.ref r0, .ref r1, .ref r2] : List Value).toArray s (LC - H0.size) (LS - jTot H0) (jA base) := ⟨_, rfl⟩
  rw [← hQ]
  have hl := lv_entry ([.ref r0, .ref r1, .ref r2]) (n := 3) (Nat.le_of_ble_eq_true rfl)
  rw [lg_entry_eq]
  generalize (lg_sl ([.ref r0, .ref r1, .ref r2]) ++ List.replicate (3 - (lg_sl ([.ref r0, .ref r1, .ref r2])).length) Slot.unset).toArray = ls at hl ⊢
  have hl : lv_has ls 3 [(0, .ref r0), (1, .ref r1), (2, .ref r2)] := hl
  generalize hR : (headSpec (jw yX5_use cX5_use 3 (some .int)) ({ frames := 4, cells := LC - H0.size, slots := LS - jTot H0, locals := 128 })).room = R
  subst hH0
  have hh : jSt (dC, dI) B base G0 G0 EX5_use s.heap 0 0 [(r0, 7, 10, .int pf)] [] [(jFg, jFr dC dI ca G0 r0)] s.heap [] := jSt.start hX hP0 jMc.nil hI0
  clear hX hP0
  have hk0 : (0 : Int32).toInt = 0 := by decide
  have hk1 : (1 : Int32).toInt = 1 := by decide
  have hk5 : (5 : Int32).toInt = 5 := by decide
  have hk8 : (8 : Int32).toInt = 8 := by decide
  have hk15 : (15 : Int32).toInt = 15 := by decide
  have hly_5_3 := htw (u_lay RX3 TX3 3) (jWc_wsX30 _ (u_in_lay (by decide)))
  have hly_7_1 := htw (u_lay RX5 TX5 1) (jWc_wsX50 _ (u_in_lay (by decide)))
  have hly_12_6 := htw (u_lay RX10 TX10 6) (jWc_wsX100 _ (u_in_lay (by decide)))
  have hly_12_9 := htw (u_lay RX10 TX10 9) (jWc_wsX100 _ (u_in_lay (by decide)))
  have hly_12_10 := htw (u_lay RX10 TX10 10) (jWc_wsX100 _ (u_in_lay (by decide)))
  have hlk_23 := (htw (.fieldLink RX5 23 "ProofServer$Kernel" "syntax" "LProofServer$Syntax;") (jWr_4 _ (List.mem_of_getElem? (i := 15) rfl)))
  have hlk_93 := (htw (.fieldLink RX5 93 "ProofServer$Syntax" "told" "[I") (jWr_81 _ (List.mem_of_getElem? (i := 8) rfl)))
  have hlk_121 := (htw (.fieldLink RX5 121 "ProofServer$Syntax" "nodes" "[I") (jWr_82 _ (List.mem_of_getElem? (i := 7) rfl)))
  have hlk_114 := (htw (.fieldLink RX5 114 "ProofServer$Syntax" "nodeCount" "I") (jWr_82 _ (List.mem_of_getElem? (i := 5) rfl)))
  have hlk_190 := (htw (.fieldLink RX5 190 "ProofServer$Goal" "formula" "[I") (jWr_84 _ (List.mem_of_getElem? (i := 15) rfl)))
  have hbs : base ≤ s.heap.size := Nat.le_of_lt (Nat.lt_of_le_of_lt (hh.ab hg_r0).1 (hh.ab hg_r0).2)
  have hRc : R.cells = LC - s.heap.size := by rw [← hR]; rfl
  have hRs : R.slots = LS - jTot s.heap := by rw [← hR]; rfl
  obtain ⟨v_1, hv_1, hh_2⟩ := hh.pin (C := RX3) (T := TX3) (N := 4) hB5 rfl (by decide) hg_r1 (i := 2) (by decide) rfl
  obtain ⟨hypotheses_3, khypotheses_3, rfl, hg_hypotheses_3, hhahypotheses_3, hhbhypotheses_3, hhchypotheses_3, hhdhypotheses_3, hhehypotheses_3⟩ := hv_1
  obtain rfl : khypotheses_3 = 313 := hhbhypotheses_3 (by omega)
  refine lv_aload_n hx hb dX5_use_0 rfl (lv_at hl 2 rfl) ?_
  refine lv_ifnull hx hb dX5_use_1 ?_
  refine lv_aload_n hx hb dX5_use_4 rfl (lv_at hl 2 rfl) ?_
  refine j7_len hx hb hK hh_2 hB280 1 rfl (by decide) hg_r2 (by omega) dX5_use_5 (fun z_4 hz_4 => ?_)
  refine lv_if_eq (tgt := 19) hx hb dX5_use_6 (by decide) (fun c_5 => ?_) (fun c_5 => ?_)
  · skip
    have c_5' : z_4.toInt = 0 := jb_eq (rfl) ((by decide)) c_5
    refine lv_bipush (v := 8) hx hb dX5_use_19 (by decide) ?_
    have hsz_6 := hh_2.2.2.2.2.2.1
    have htt_6 := hh_2.2.2.2.2.2.2.1
    refine W.room (fun hrc_6 hrs_6 => ?_)
    refine W.widen (k := LC - s.heap.size) (n := LS - jTot s.heap) (by omega) (by omega) ?_
    rw [hQ]
    exact W.iret (v := 8) hx hb hr (fun t ht hW => ⟨⟨8, (pf, G0), rfl, by (try dsimp only); exact ⟨(by first | omega | rfl | assumption | fail), (by first | omega | rfl | assumption | fail)⟩, ⟨hh_2.ra (by first | omega | (simp only; omega)) (by first | omega | (simp only; omega)) (M1 := [(r0, 7, 10, .int pf)]) [1] rfl ht, jNk.rf, by rw [ht]; exact hh_2.2.2.2.2.2.2.2.2.sub (L1 := [(jFg, jFr dC dI ca G0 r0)]) [0] rfl⟩⟩, by rw [ht]; try exact hh_2.1.1, fun q h9 hq => by rw [ht]; try exact hh_2.1.2.1 q h9 hq⟩) hh_2.1.2.2 dX5_use_21
  · skip
    have c_5' : z_4.toInt ≠ 0 := jb_eq_n (rfl) ((by decide)) c_5
    refine lv_aload_n hx hb dX5_use_9 rfl (lv_at hl 2 rfl) ?_
    refine lv_iconst (v := 0) hx hb dX5_use_10 (by decide) ?_
    refine j7_iald hx hb hK hh_2 hB280 1 rfl (by decide) hg_r2 (x := 0) ((by decide)) (by omega) dX5_use_11 (fun z_7 (hz_7 : -1 ≤ z_7.toInt) => ?_)
    refine lv_bipush (v := 15) hx hb dX5_use_12 (by decide) ?_
    refine lv_iand hx hb dX5_use_14 ?_
    refine lv_topi (fun z_8 ez_8 => ?_)
    have hz_8 : 0 ≤ z_8.toInt ∧ z_8.toInt ≤ 15 := by rw [ez_8]; exact jb_and z_7 (m := 15) (k := 4) (by decide) (by decide)
    have hbz_8 : z_8.toInt = z_7.toInt % 16 := by rw [ez_8, jb_and15]
    refine lv_iconst (v := 5) hx hb dX5_use_15 (by decide) ?_
    refine lv_icmp_eq (tgt := 22) hx hb dX5_use_16 (by decide) (fun c_9 => ?_) (fun c_9 => ?_)
    · skip
      have c_9' : z_8.toInt = 5 := jb_eq (rfl) ((by decide)) c_9
      refine lv_aload_n hx hb dX5_use_22 rfl (lv_at hl 0 rfl) ?_
      refine lv_aload_n hx hb dX5_use_23 rfl (lv_at hl 1 rfl) ?_
      refine lv_aload_n hx hb dX5_use_24 rfl (lv_at hl 0 rfl) ?_
      obtain ⟨v_10, hv_10, hh_11⟩ := hh_2.pin (C := RX5) (T := TX5) (N := 11) hB7 rfl (by decide) hg_r0 (i := 1) (by decide) rfl
      clear hh_2
      obtain ⟨syntax_12, rfl, hg_syntax_12⟩ := hv_10
      refine j7_read hx hb hown hK (C := RX5) (T := TX5) (N := 11) rfl hly_7_1 hlk_23 (hh_11.at 0 rfl) dX5_use_25 ?_
      obtain ⟨v_13, hv_13, hh_14⟩ := hh_11.pin (C := RX10) (T := TX10) (N := 11) hB12 rfl (by decide) hg_syntax_12 (i := 6) (by decide) rfl
      clear hh_11
      obtain ⟨told_15, rfl, hg_told_15⟩ := hv_13
      refine j7_read hx hb hown hK (C := RX10) (T := TX10) (N := 11) rfl hly_12_6 hlk_93 (hh_14.at 0 rfl) dX5_use_28 ?_
      refine lv_iconst (v := 1) hx hb dX5_use_31 (by decide) ?_
      refine j7_iald hx hb hK hh_14 hB292 1 rfl (by decide) hg_told_15 (x := 1) ((by decide)) (by omega) dX5_use_32 (fun z_16 (hz_16 : 0 ≤ z_16.toInt ∧ z_16.toInt ≤ 8191) => ?_)
      refine lv_aload_n hx hb dX5_use_33 rfl (lv_at hl 0 rfl) ?_
      refine lv_aload_n hx hb dX5_use_34 rfl (lv_at hl 2 rfl) ?_
      refine lv_aload_n hx hb dX5_use_35 rfl (lv_at hl 0 rfl) ?_
      refine j7_read hx hb hown hK (C := RX5) (T := TX5) (N := 11) rfl hly_7_1 hlk_23 (hh_14.at 1 rfl) dX5_use_36 ?_
      obtain ⟨v_17, hv_17, hh_18⟩ := hh_14.pin (C := RX10) (T := TX10) (N := 11) hB12 rfl (by decide) hg_syntax_12 (i := 9) (by decide) rfl
      clear hh_14
      obtain ⟨nodes_19, rfl, hg_nodes_19⟩ := hv_17
      refine j7_read hx hb hown hK (C := RX10) (T := TX10) (N := 11) rfl hly_12_9 hlk_121 (hh_18.at 0 rfl) dX5_use_39 ?_
      refine lv_aload_n hx hb dX5_use_42 rfl (lv_at hl 0 rfl) ?_
      refine j7_read hx hb hown hK (C := RX5) (T := TX5) (N := 11) rfl hly_7_1 hlk_23 (hh_18.at 2 rfl) dX5_use_43 ?_
      obtain ⟨v_20, hv_20, hh_21⟩ := hh_18.pin (C := RX10) (T := TX10) (N := 11) hB12 rfl (by decide) hg_syntax_12 (i := 10) (by decide) rfl
      clear hh_18
      obtain ⟨nodeCount_22, rfl, hlonodeCount_22, hhinodeCount_22⟩ := hv_20
      refine j7_read hx hb hown hK (C := RX10) (T := TX10) (N := 11) rfl hly_12_10 hlk_114 (hh_21.at 0 rfl) dX5_use_46 ?_
      obtain ⟨v_25, hv_25, hh_26⟩ := hh_21.pin (C := RX5) (T := TX5) (N := 11) hB7 rfl (by decide) hg_r0 (i := 6) (by decide) rfl
      obtain ⟨termFrom_27, rfl, hg_termFrom_27⟩ := hv_25
      obtain ⟨v_28, hv_28, hh_29⟩ := hh_26.pin (C := RX5) (T := TX5) (N := 11) hB7 rfl (by decide) hg_r0 (i := 7) (by decide) rfl
      obtain ⟨termSize_30, rfl, hg_termSize_30⟩ := hv_28
      obtain ⟨f_fx_31, hh_31⟩ := hh_29.cpin hB290 (by decide) (by decide) hg_termFrom_27
      clear hh_29
      obtain ⟨f_ft_32, hh_32⟩ := hh_31.cpin hB291 (by decide) (by decide) hg_termSize_30
      clear hh_31
      have hsz_23 := hh_32.2.2.2.2.2.1
      have htt_23 := hh_32.2.2.2.2.2.2.1
      refine W.room (fun hrc_23 hrs_23 => ?_)
      refine j_callx (A0 := jA base) (H0 := s.heap) (va_runV (As := [.ref r2, .ref nodes_19, .int nodeCount_22]) (rest := [.int z_16, .ref r1, .ref r0]) ⟨hx, hb, hml, hown, hts⟩ (uX5_opened l dC dI ca base B hB hAp hB7 hB280 hB290 hB291 G0 s.heap r0 r2 nodes_19 nodeCount_22 n2 3000 termFrom_27 termSize_30 f_fx_31 f_ft_32 LC LS) (cwV 3 hts (jgV (jWr_85 _ (List.mem_of_getElem? (i := 16) rfl)) (jWr_85 _ (List.mem_of_getElem? (i := 17) rfl)) (jWr_85 _ (List.mem_of_getElem? (i := 18) rfl)) (jWr_2 _ (List.mem_of_getElem? (i := 4) rfl)) (jWr_85 _ (List.mem_of_getElem? (i := 19) rfl))) rfl rfl rfl (by decide +kernel) ⟨by rw [← hR]; exact Nat.le_of_ble_eq_true rfl, by rw [← hR]; exact Nat.le_of_ble_eq_true rfl⟩) ⟨fun a U g mk q => by obtain ⟨q0, q1, q2, qK, q10, q11, q12, q13, q14, q15, q16, q17⟩ := q; exact ⟨q0, q1, q2, jG.calling g mk a qK, q10, q11, q12, q13, q14, q15, q16, q17⟩, hh_32.recv (C := RX5) (T := TX5) (N := 11) hB7 rfl (by decide) hg_r0 hK, fun U hU hW => ⟨rfl, hU, hh_32.2.1, hG.step hW hU hh_32.1, hg_r2, hg_nodes_19, hg_r0, hg_termFrom_27, hg_termSize_30, (hh_32.2.2.1.sub (L1 := [(r0, 7, 6, .ref termFrom_27), (r0, 7, 7, .ref termSize_30)]) [1, 0] rfl), (hh_32.2.2.2.2.2.2.2.1.sub (L1 := [(termFrom_27, 290, 13, ca 1, f_fx_31), (termSize_30, 291, 13, ca 1, f_ft_32)]) [1, 0] rfl), by first | omega | (refine ⟨?_, ?_, ?_⟩ <;> (first | omega | rfl | assumption | decide | exact Or.inl rfl | exact Or.inr rfl | (simp only; omega)))⟩⟩ rfl rfl hl.1 rfl (lv_room (Nat.le_of_ble_eq_true rfl)) dX5_use_49 ⟨by rw [hRc]; omega, by rw [hRs]; omega⟩) hh_32.1 (fun q _ h => h) (fun q h => h) (fun r_24 u_23 t_23 H_23 locs_23 ht_23 hvm_23 hr_24 hb_23 hz_23 hk_23 hS_23 => ?_)
      rw [ht_23] at hb_23
      obtain ⟨m_ret_23, G_23⟩ := u_23
      simp only at hb_23
      obtain ⟨⟨hb_231, hb_232, hb_233, hb_234, hb_235, hb_236⟩, hN_23⟩ := hb_23
      have hN_23 : (jNk [0, 1, 2, 3, 4, 6, 7, 8, 9, 10, 11, 12, 13, 14, 15, 16, 17, 175]) G0 G_23 := hN_23.sub (by decide)
      have hh_23 : jSt (dC, dI) B base G0 G_23 EX5_use s.heap (0 + (1)) (0 + (80)) [(r0, 7, 7, .ref termSize_30), (r0, 7, 6, .ref termFrom_27), (syntax_12, 12, 10, .int nodeCount_22), (syntax_12, 12, 9, .ref nodes_19), (syntax_12, 12, 6, .ref told_15), (r0, 7, 1, .ref syntax_12), (r1, 5, 2, .ref hypotheses_3), (r0, 7, 10, .int pf)] [] [(jFg, jFr dC dI ca G0 r0)] H_23 locs_23 := (hh_32.callG hb_231 hb_232 hb_233 hb_234 hb_235 hS_23 rfl (L1 := [(r0, 7, 7, .ref termSize_30), (r0, 7, 6, .ref termFrom_27), (syntax_12, 12, 10, .int nodeCount_22), (syntax_12, 12, 9, .ref nodes_19), (syntax_12, 12, 6, .ref told_15), (r0, 7, 1, .ref syntax_12), (r1, 5, 2, .ref hypotheses_3), (r0, 7, 10, .int pf)]) [0, 1, 2, 3, 4, 5, 6, 7] rfl rfl (M1 := []) [] rfl rfl (I1 := [(jFg, jFr dC dI ca G0 r0)]) [0] rfl rfl).more hb_236
      have hNn_23 : (jNk [0, 1, 2, 3, 4, 6, 7, 8, 9, 10, 11, 12, 13, 14, 15, 16, 17, 175]) G0 G_23 := (jNk.rf).tr hN_23
      have hg_33 := hb_232 _ _ hg_r0
      have hg_34 := hb_232 _ _ hg_r1
      have hg_35 := hb_232 _ _ hg_r2
      have hg_36 := hb_232 _ _ hg_termSize_30
      have hg_37 := hb_232 _ _ hg_termFrom_27
      have hg_38 := hb_232 _ _ hg_nodes_19
      have hg_39 := hb_232 _ _ hg_told_15
      have hg_40 := hb_232 _ _ hg_syntax_12
      have hg_41 := hb_232 _ _ hg_hypotheses_3
      have hd_42 := jFr.grow (hh_23.iv 0 rfl) hb_232
      have hh_43 := hh_23.sub (L1 := [(r0, 7, 7, .ref termSize_30), (r0, 7, 6, .ref termFrom_27), (syntax_12, 12, 10, .int nodeCount_22), (syntax_12, 12, 9, .ref nodes_19), (syntax_12, 12, 6, .ref told_15), (r0, 7, 1, .ref syntax_12), (r1, 5, 2, .ref hypotheses_3), (r0, 7, 10, .int pf)]) [0, 1, 2, 3, 4, 5, 6, 7] rfl (M1 := []) [] rfl (I1 := []) [] rfl
      clear hh_23
      have hh_44 := hh_43.addI (jFr.ie hd_42)
      clear hh_43
      obtain ⟨hr_24, hr_24p⟩ := hr_24
      try simp only at hr_24p
      rcases hr_24 with rfl | ⟨hr_24, hr_24n⟩
      · skip
        refine lv_aload_n hx hb dX5_use_52 rfl (lv_at hl 1 rfl) ?_
        obtain ⟨v_45, hv_45, hh_46⟩ := hh_44.pin (C := RX3) (T := TX3) (N := 4) hB5 rfl (by decide) hg_34 (i := 3) (by decide) rfl
        clear hh_44
        rcases hv_45 with ⟨rfl, hcv_45⟩ | ⟨formula_47, nformula_47, rfl, hg_formula_47, hn_formula_47, hcv_45, hdv_45⟩
        · exact absurd hcv_45 (by omega)
        refine j7_read hx hb hown hK (C := RX3) (T := TX3) (N := 4) rfl hly_5_3 hlk_190 (hh_46.at 0 rfl) dX5_use_53 ?_
        have hsz_48 := hh_46.2.2.2.2.2.1
        have htt_48 := hh_46.2.2.2.2.2.2.1
        refine W.room (fun hrc_48 hrs_48 => ?_)
        refine j_callx (A0 := jA base) (H0 := s.heap) (va_runV (As := [.int z_16, .null, .ref formula_47]) (rest := [.ref r0]) ⟨hx, hb, hml, hown, hts⟩ (uX3_withHypothesisZ l dC dI ca base B hB hAp hB5 hB101 hB280 hB313 hB315 G_23 H_23 r1 z_16 formula_47 n1 nformula_47 LC LS) (cwV 3 hts (jgV (jWr_85 _ (List.mem_of_getElem? (i := 0) rfl)) (jWr_85 _ (List.mem_of_getElem? (i := 1) rfl)) (jWr_85 _ (List.mem_of_getElem? (i := 2) rfl)) (jWr_82 _ (List.mem_of_getElem? (i := 10) rfl)) (jWr_85 _ (List.mem_of_getElem? (i := 3) rfl))) rfl rfl rfl (by decide +kernel) ⟨by rw [← hR]; exact Nat.le_of_ble_eq_true rfl, by rw [← hR]; exact Nat.le_of_ble_eq_true rfl⟩) ⟨fun a U g mk q => by obtain ⟨q0, q1, q2, qK, q10, q11, q12, q13, q14⟩ := q; exact ⟨q0, q1, q2, jG.calling g mk a qK, (jK5.moved (Vm.Alike.refl U.vm) q10), q11, q12, q13, q14⟩, hh_46.recv (C := RX3) (T := TX3) (N := 4) hB5 rfl (by decide) hg_34 hK, fun U hU hW => ⟨rfl, hU, hh_46.2.1, hG.step hW hU hh_46.1, jK5.moved hW.alike hK5, hg_34, hg_formula_47, jP.nil, by first | omega | (refine ⟨?_, ?_, ?_⟩ <;> (first | omega | rfl | assumption | decide | exact Or.inl rfl | exact Or.inr rfl | (simp only; omega)))⟩⟩ rfl rfl hl.1 rfl (lv_room (Nat.le_of_ble_eq_true rfl)) dX5_use_56 ⟨by rw [hRc]; omega, by rw [hRs]; omega⟩) hh_46.1 (fun q _ h => h) (fun q h => h) (fun r_49 u_48 t_48 H_48 locs_48 ht_48 hvm_48 hr_49 hb_48 hz_48 hk_48 hS_48 => ?_)
        rw [ht_48] at hb_48
        obtain ⟨m_ret_48, G_48⟩ := u_48
        simp only at hb_48
        obtain ⟨⟨hb_481, hb_482, hb_483, hb_484, hb_485, hb_486⟩, hN_48⟩ := hb_48
        have hh_48 : jSt (dC, dI) B base G0 G_48 EX5_use s.heap ((0 + (1)) + (3)) ((0 + (80)) + (24)) [(r1, 5, 3, .ref formula_47), (r0, 7, 7, .ref termSize_30), (r0, 7, 6, .ref termFrom_27), (syntax_12, 12, 10, .int nodeCount_22), (syntax_12, 12, 9, .ref nodes_19), (syntax_12, 12, 6, .ref told_15), (r0, 7, 1, .ref syntax_12), (r1, 5, 2, .ref hypotheses_3), (r0, 7, 10, .int pf)] [] [(jFg, jFr dC dI ca G_23 r0)] H_48 locs_48 := (hh_46.callG hb_481 hb_482 hb_483 hb_484 hb_485 hS_48 rfl (L1 := [(r1, 5, 3, .ref formula_47), (r0, 7, 7, .ref termSize_30), (r0, 7, 6, .ref termFrom_27), (syntax_12, 12, 10, .int nodeCount_22), (syntax_12, 12, 9, .ref nodes_19), (syntax_12, 12, 6, .ref told_15), (r0, 7, 1, .ref syntax_12), (r1, 5, 2, .ref hypotheses_3), (r0, 7, 10, .int pf)]) [0, 1, 2, 3, 4, 5, 6, 7, 8] rfl rfl (M1 := []) [] rfl rfl (I1 := [(jFg, jFr dC dI ca G_23 r0)]) [0] rfl rfl).more hb_486
        have hNn_48 : (jNk [0, 1, 2, 3, 4, 6, 7, 8, 9, 10, 11, 12, 13, 14, 15, 16, 17, 175]) G0 G_48 := (hNn_23).tr hN_48
        have hg_50 := hb_482 _ _ hg_33
        have hg_51 := hb_482 _ _ hg_34
        have hg_52 := hb_482 _ _ hg_35
        have hg_53 := hb_482 _ _ hg_formula_47
        have hg_54 := hb_482 _ _ hg_36
        have hg_55 := hb_482 _ _ hg_37
        have hg_56 := hb_482 _ _ hg_38
        have hg_57 := hb_482 _ _ hg_39
        have hg_58 := hb_482 _ _ hg_40
        have hg_59 := hb_482 _ _ hg_41
        have hd_60 := jFr.grow (hh_48.iv 0 rfl) hb_482
        have hh_61 := hh_48.sub (L1 := [(r1, 5, 3, .ref formula_47), (r0, 7, 7, .ref termSize_30), (r0, 7, 6, .ref termFrom_27), (syntax_12, 12, 10, .int nodeCount_22), (syntax_12, 12, 9, .ref nodes_19), (syntax_12, 12, 6, .ref told_15), (r0, 7, 1, .ref syntax_12), (r1, 5, 2, .ref hypotheses_3), (r0, 7, 10, .int pf)]) [0, 1, 2, 3, 4, 5, 6, 7, 8] rfl (M1 := []) [] rfl (I1 := []) [] rfl
        clear hh_48
        have hh_62 := hh_61.addI (jFr.ie hd_60)
        clear hh_61
        obtain ⟨hr_49, hr_49n, hr_49p⟩ := hr_49
        try simp only at hr_49p
        obtain ⟨ret_63, rfl, hg_ret_63⟩ := hr_49
        have hsy_48 : s.heap.size ≤ ret_63 := Nat.le_trans hh_46.1.1 hr_49n.le
        have hsz_64 := hh_62.2.2.2.2.2.1
        have htt_64 := hh_62.2.2.2.2.2.2.1
        refine W.room (fun hrc_64 hrs_64 => ?_)
        refine va_calli (A0 := jA base) (H0 := s.heap) (va_runV (As := [.ref ret_63]) (rest := []) ⟨hx, hb, hml, hown, hts⟩ (uX5_add l dC dI ca base B hB hAp hB5 hB7 hB211 G_48 H_48 r0 ret_63 m_ret_48 pf) (cwV 1 hts (jgV (jWr_85 _ (List.mem_of_getElem? (i := 8) rfl)) (jWr_85 _ (List.mem_of_getElem? (i := 9) rfl)) (jWr_85 _ (List.mem_of_getElem? (i := 10) rfl)) (jWr_2 _ (List.mem_of_getElem? (i := 4) rfl)) (jWr_85 _ (List.mem_of_getElem? (i := 11) rfl))) rfl rfl rfl (by decide +kernel) ⟨by rw [← hR]; exact Nat.le_of_ble_eq_true rfl, by rw [← hR]; exact Nat.le_of_ble_eq_true rfl⟩) ⟨fun a U g mk q => by obtain ⟨q0, q1, q2, qK, q10, q11, q12, q13, q14, q15⟩ := q; exact ⟨q0, q1, q2, jG.calling g mk a qK, (va_K.moved (Vm.Alike.refl U.vm) q10), q11, q12, q13, q14, q15⟩, hh_62.recv (C := RX5) (T := TX5) (N := 11) hB7 rfl (by decide) hg_50 hK, fun U hU hW => ⟨rfl, hU, hh_62.2.1, hG.step hW hU hh_62.1, va_K.moved hW.alike hK2, hg_50, hg_ret_63, (hh_62.2.2.1.sub (L1 := [(r0, 7, 10, .int pf)]) [8] rfl), (hh_62.2.2.2.2.2.2.2.2.sub (L1 := [(jFg, jFr dC dI ca G_48 r0)]) [0] rfl), by first | omega | (refine ⟨?_, ?_, ?_⟩ <;> (first | omega | rfl | assumption | decide | exact Or.inl rfl | exact Or.inr rfl | (simp only; omega)))⟩⟩ rfl rfl hl.1 rfl (lv_room (Nat.le_of_ble_eq_true rfl)) dX5_use_59 ⟨by rw [hRc]; show _ + 0 ≤ _; omega, by rw [hRs]; show _ + 0 ≤ _; omega⟩) hh_62.1 (fun q _ h => h) (fun q h => h) (fun r_65 u_64 t_64 H_64 locs_64 ht_64 hvm_64 hr_65 hb_64 hz_64 hk_64 hS_64 => ?_)
        obtain ⟨qf_64, rfl⟩ : ∃ z, z = u_64 := ⟨_, rfl⟩
        rw [ht_64] at hb_64
        obtain ⟨hb_64, hbE_64⟩ := hb_64
        obtain ⟨hb_641, hb_642, hb_643, hb_644, hb_645⟩ := hb_64
        have hh_64 : jSt (dC, dI) B base G0 G_48 EX5_use s.heap ((0 + (1)) + (3)) ((0 + (80)) + (24)) [(r0, 7, 10, .int qf_64), (r1, 5, 3, .ref formula_47), (r0, 7, 7, .ref termSize_30), (r0, 7, 6, .ref termFrom_27), (syntax_12, 12, 10, .int nodeCount_22), (syntax_12, 12, 9, .ref nodes_19), (syntax_12, 12, 6, .ref told_15), (r0, 7, 1, .ref syntax_12), (r1, 5, 2, .ref hypotheses_3)] [] [(jFg, jFr dC dI ca G_48 r0)] H_64 locs_64 := (((hh_62.call hb_641 hb_642 hb_643 hb_644 hS_64 rfl (L1 := [(r1, 5, 3, .ref formula_47), (r0, 7, 7, .ref termSize_30), (r0, 7, 6, .ref termFrom_27), (syntax_12, 12, 10, .int nodeCount_22), (syntax_12, 12, 9, .ref nodes_19), (syntax_12, 12, 6, .ref told_15), (r0, 7, 1, .ref syntax_12), (r1, 5, 2, .ref hypotheses_3)]) [0, 1, 2, 3, 4, 5, 6, 7] rfl rfl (M1 := []) [] rfl rfl (I1 := []) [] rfl rfl).more hb_645)).addIs hbE_64
        clear hh_62 ht_64 hvm_64 hz_64 hk_64 hS_64 hb_641 hb_642 hb_643 hb_644 hb_645
        clear  hbE_64
        obtain ⟨hr_65_0, hr_65_1⟩ := hr_65
        have hsz_66 := hh_64.2.2.2.2.2.1
        have htt_66 := hh_64.2.2.2.2.2.2.1
        refine W.room (fun hrc_66 hrs_66 => ?_)
        refine W.widen (k := LC - s.heap.size) (n := LS - jTot s.heap) (by omega) (by omega) ?_
        rw [hQ]
        exact W.iret (v := r_65) hx hb hr (fun t ht hW => ⟨⟨r_65, (qf_64, G_48), rfl, by (try dsimp only); exact ⟨(by first | omega | rfl | assumption | fail), (by first | omega | rfl | assumption | fail)⟩, ⟨hh_64.ra (by first | omega | (simp only; omega)) (by first | omega | (simp only; omega)) (M1 := [(r0, 7, 10, .int qf_64)]) [0] rfl ht, hNn_48, by rw [ht]; exact hh_64.2.2.2.2.2.2.2.2.sub (L1 := [(jFg, jFr dC dI ca G_48 r0)]) [0] rfl⟩⟩, by rw [ht]; try exact hh_64.1.1, fun q h9 hq => by rw [ht]; try exact hh_64.1.2.1 q h9 hq⟩) hh_64.1.2.2 dX5_use_62
      · skip
        obtain ⟨ret_67, rfl, hg_ret_67⟩ := hr_24
        have hsy_23 : s.heap.size ≤ ret_67 := Nat.le_trans hh_32.1.1 hr_24n.le
        refine lv_aload_n hx hb dX5_use_52 rfl (lv_at hl 1 rfl) ?_
        obtain ⟨v_68, hv_68, hh_69⟩ := hh_44.pin (C := RX3) (T := TX3) (N := 4) hB5 rfl (by decide) hg_34 (i := 3) (by decide) rfl
        clear hh_44
        rcases hv_68 with ⟨rfl, hcv_68⟩ | ⟨formula_70, nformula_70, rfl, hg_formula_70, hn_formula_70, hcv_68, hdv_68⟩
        · exact absurd hcv_68 (by omega)
        refine j7_read hx hb hown hK (C := RX3) (T := TX3) (N := 4) rfl hly_5_3 hlk_190 (hh_69.at 0 rfl) dX5_use_53 ?_
        have hsz_71 := hh_69.2.2.2.2.2.1
        have htt_71 := hh_69.2.2.2.2.2.2.1
        refine W.room (fun hrc_71 hrs_71 => ?_)
        refine j_callx (A0 := jA base) (H0 := s.heap) (va_runV (As := [.int z_16, .ref ret_67, .ref formula_70]) (rest := [.ref r0]) ⟨hx, hb, hml, hown, hts⟩ (uX3_withHypothesis l dC dI ca base B hB hAp hB5 hB101 hB280 hB313 G_23 H_23 r1 z_16 ret_67 formula_70 n1 m_ret_23 nformula_70 LC LS) (cwV 3 hts (jgV (jWr_85 _ (List.mem_of_getElem? (i := 0) rfl)) (jWr_85 _ (List.mem_of_getElem? (i := 1) rfl)) (jWr_85 _ (List.mem_of_getElem? (i := 2) rfl)) (jWr_82 _ (List.mem_of_getElem? (i := 10) rfl)) (jWr_85 _ (List.mem_of_getElem? (i := 3) rfl))) rfl rfl rfl (by decide +kernel) ⟨by rw [← hR]; exact Nat.le_of_ble_eq_true rfl, by rw [← hR]; exact Nat.le_of_ble_eq_true rfl⟩) ⟨fun a U g mk q => by obtain ⟨q0, q1, q2, qK, q10, q11, q12, q13, q14, q15⟩ := q; exact ⟨q0, q1, q2, jG.calling g mk a qK, (jK5.moved (Vm.Alike.refl U.vm) q10), q11, q12, q13, q14, q15⟩, hh_69.recv (C := RX3) (T := TX3) (N := 4) hB5 rfl (by decide) hg_34 hK, fun U hU hW => ⟨rfl, hU, hh_69.2.1, hG.step hW hU hh_69.1, jK5.moved hW.alike hK5, hg_34, hg_ret_67, hg_formula_70, jP.nil, by first | omega | (refine ⟨?_, ?_, ?_, ?_⟩ <;> (first | omega | rfl | assumption | decide | exact Or.inl rfl | exact Or.inr rfl | (simp only; omega)))⟩⟩ rfl rfl hl.1 rfl (lv_room (Nat.le_of_ble_eq_true rfl)) dX5_use_56 ⟨by rw [hRc]; omega, by rw [hRs]; omega⟩) hh_69.1 (fun q _ h => h) (fun q h => h) (fun r_72 u_71 t_71 H_71 locs_71 ht_71 hvm_71 hr_72 hb_71 hz_71 hk_71 hS_71 => ?_)
        rw [ht_71] at hb_71
        obtain ⟨m_ret_71, G_71⟩ := u_71
        simp only at hb_71
        obtain ⟨⟨hb_711, hb_712, hb_713, hb_714, hb_715, hb_716⟩, hN_71⟩ := hb_71
        have hh_71 : jSt (dC, dI) B base G0 G_71 EX5_use s.heap ((0 + (1)) + (3)) ((0 + (80)) + (24)) [(r1, 5, 3, .ref formula_70), (r0, 7, 7, .ref termSize_30), (r0, 7, 6, .ref termFrom_27), (syntax_12, 12, 10, .int nodeCount_22), (syntax_12, 12, 9, .ref nodes_19), (syntax_12, 12, 6, .ref told_15), (r0, 7, 1, .ref syntax_12), (r1, 5, 2, .ref hypotheses_3), (r0, 7, 10, .int pf)] [] [(jFg, jFr dC dI ca G_23 r0)] H_71 locs_71 := (hh_69.callG hb_711 hb_712 hb_713 hb_714 hb_715 hS_71 rfl (L1 := [(r1, 5, 3, .ref formula_70), (r0, 7, 7, .ref termSize_30), (r0, 7, 6, .ref termFrom_27), (syntax_12, 12, 10, .int nodeCount_22), (syntax_12, 12, 9, .ref nodes_19), (syntax_12, 12, 6, .ref told_15), (r0, 7, 1, .ref syntax_12), (r1, 5, 2, .ref hypotheses_3), (r0, 7, 10, .int pf)]) [0, 1, 2, 3, 4, 5, 6, 7, 8] rfl rfl (M1 := []) [] rfl rfl (I1 := [(jFg, jFr dC dI ca G_23 r0)]) [0] rfl rfl).more hb_716
        have hNn_71 : (jNk [0, 1, 2, 3, 4, 6, 7, 8, 9, 10, 11, 12, 13, 14, 15, 16, 17, 175]) G0 G_71 := (hNn_23).tr hN_71
        have hg_73 := hb_712 _ _ hg_33
        have hg_74 := hb_712 _ _ hg_34
        have hg_75 := hb_712 _ _ hg_35
        have hg_76 := hb_712 _ _ hg_formula_70
        have hg_77 := hb_712 _ _ hg_36
        have hg_78 := hb_712 _ _ hg_37
        have hg_79 := hb_712 _ _ hg_38
        have hg_80 := hb_712 _ _ hg_39
        have hg_81 := hb_712 _ _ hg_40
        have hg_82 := hb_712 _ _ hg_41
        have hd_83 := jFr.grow (hh_71.iv 0 rfl) hb_712
        have hh_84 := hh_71.sub (L1 := [(r1, 5, 3, .ref formula_70), (r0, 7, 7, .ref termSize_30), (r0, 7, 6, .ref termFrom_27), (syntax_12, 12, 10, .int nodeCount_22), (syntax_12, 12, 9, .ref nodes_19), (syntax_12, 12, 6, .ref told_15), (r0, 7, 1, .ref syntax_12), (r1, 5, 2, .ref hypotheses_3), (r0, 7, 10, .int pf)]) [0, 1, 2, 3, 4, 5, 6, 7, 8] rfl (M1 := []) [] rfl (I1 := []) [] rfl
        clear hh_71
        have hh_85 := hh_84.addI (jFr.ie hd_83)
        clear hh_84
        obtain ⟨hr_72, hr_72n, hr_72p⟩ := hr_72
        try simp only at hr_72p
        obtain ⟨hr_72p_0, hr_72p_1⟩ := hr_72p
        obtain ⟨ret_86, rfl, hg_ret_86⟩ := hr_72
        have hsy_71 : s.heap.size ≤ ret_86 := Nat.le_trans hh_69.1.1 hr_72n.le
        have hsz_87 := hh_85.2.2.2.2.2.1
        have htt_87 := hh_85.2.2.2.2.2.2.1
        refine W.room (fun hrc_87 hrs_87 => ?_)
        refine va_calli (A0 := jA base) (H0 := s.heap) (va_runV (As := [.ref ret_86]) (rest := []) ⟨hx, hb, hml, hown, hts⟩ (uX5_add l dC dI ca base B hB hAp hB5 hB7 hB211 G_71 H_71 r0 ret_86 m_ret_71 pf) (cwV 1 hts (jgV (jWr_85 _ (List.mem_of_getElem? (i := 8) rfl)) (jWr_85 _ (List.mem_of_getElem? (i := 9) rfl)) (jWr_85 _ (List.mem_of_getElem? (i := 10) rfl)) (jWr_2 _ (List.mem_of_getElem? (i := 4) rfl)) (jWr_85 _ (List.mem_of_getElem? (i := 11) rfl))) rfl rfl rfl (by decide +kernel) ⟨by rw [← hR]; exact Nat.le_of_ble_eq_true rfl, by rw [← hR]; exact Nat.le_of_ble_eq_true rfl⟩) ⟨fun a U g mk q => by obtain ⟨q0, q1, q2, qK, q10, q11, q12, q13, q14, q15⟩ := q; exact ⟨q0, q1, q2, jG.calling g mk a qK, (va_K.moved (Vm.Alike.refl U.vm) q10), q11, q12, q13, q14, q15⟩, hh_85.recv (C := RX5) (T := TX5) (N := 11) hB7 rfl (by decide) hg_73 hK, fun U hU hW => ⟨rfl, hU, hh_85.2.1, hG.step hW hU hh_85.1, va_K.moved hW.alike hK2, hg_73, hg_ret_86, (hh_85.2.2.1.sub (L1 := [(r0, 7, 10, .int pf)]) [8] rfl), (hh_85.2.2.2.2.2.2.2.2.sub (L1 := [(jFg, jFr dC dI ca G_71 r0)]) [0] rfl), by first | omega | (refine ⟨?_, ?_, ?_⟩ <;> (first | omega | rfl | assumption | decide | exact Or.inl rfl | exact Or.inr rfl | (simp only; omega)))⟩⟩ rfl rfl hl.1 rfl (lv_room (Nat.le_of_ble_eq_true rfl)) dX5_use_59 ⟨by rw [hRc]; show _ + 0 ≤ _; omega, by rw [hRs]; show _ + 0 ≤ _; omega⟩) hh_85.1 (fun q _ h => h) (fun q h => h) (fun r_88 u_87 t_87 H_87 locs_87 ht_87 hvm_87 hr_88 hb_87 hz_87 hk_87 hS_87 => ?_)
        obtain ⟨qf_87, rfl⟩ : ∃ z, z = u_87 := ⟨_, rfl⟩
        rw [ht_87] at hb_87
        obtain ⟨hb_87, hbE_87⟩ := hb_87
        obtain ⟨hb_871, hb_872, hb_873, hb_874, hb_875⟩ := hb_87
        have hh_87 : jSt (dC, dI) B base G0 G_71 EX5_use s.heap ((0 + (1)) + (3)) ((0 + (80)) + (24)) [(r0, 7, 10, .int qf_87), (r1, 5, 3, .ref formula_70), (r0, 7, 7, .ref termSize_30), (r0, 7, 6, .ref termFrom_27), (syntax_12, 12, 10, .int nodeCount_22), (syntax_12, 12, 9, .ref nodes_19), (syntax_12, 12, 6, .ref told_15), (r0, 7, 1, .ref syntax_12), (r1, 5, 2, .ref hypotheses_3)] [] [(jFg, jFr dC dI ca G_71 r0)] H_87 locs_87 := (((hh_85.call hb_871 hb_872 hb_873 hb_874 hS_87 rfl (L1 := [(r1, 5, 3, .ref formula_70), (r0, 7, 7, .ref termSize_30), (r0, 7, 6, .ref termFrom_27), (syntax_12, 12, 10, .int nodeCount_22), (syntax_12, 12, 9, .ref nodes_19), (syntax_12, 12, 6, .ref told_15), (r0, 7, 1, .ref syntax_12), (r1, 5, 2, .ref hypotheses_3)]) [0, 1, 2, 3, 4, 5, 6, 7] rfl rfl (M1 := []) [] rfl rfl (I1 := []) [] rfl rfl).more hb_875)).addIs hbE_87
        clear hh_85 ht_87 hvm_87 hz_87 hk_87 hS_87 hb_871 hb_872 hb_873 hb_874 hb_875
        clear  hbE_87
        obtain ⟨hr_88_0, hr_88_1⟩ := hr_88
        have hsz_89 := hh_87.2.2.2.2.2.1
        have htt_89 := hh_87.2.2.2.2.2.2.1
        refine W.room (fun hrc_89 hrs_89 => ?_)
        refine W.widen (k := LC - s.heap.size) (n := LS - jTot s.heap) (by omega) (by omega) ?_
        rw [hQ]
        exact W.iret (v := r_88) hx hb hr (fun t ht hW => ⟨⟨r_88, (qf_87, G_71), rfl, by (try dsimp only); exact ⟨(by first | omega | rfl | assumption | fail), (by first | omega | rfl | assumption | fail)⟩, ⟨hh_87.ra (by first | omega | (simp only; omega)) (by first | omega | (simp only; omega)) (M1 := [(r0, 7, 10, .int qf_87)]) [0] rfl ht, hNn_71, by rw [ht]; exact hh_87.2.2.2.2.2.2.2.2.sub (L1 := [(jFg, jFr dC dI ca G_71 r0)]) [0] rfl⟩⟩, by rw [ht]; try exact hh_87.1.1, fun q h9 hq => by rw [ht]; try exact hh_87.1.2.1 q h9 hq⟩) hh_87.1.2.2 dX5_use_62
    · skip
      have c_9' : z_8.toInt ≠ 5 := jb_eq_n (rfl) ((by decide)) c_9
      refine lv_bipush (v := 8) hx hb dX5_use_19 (by decide) ?_
      have hsz_90 := hh_2.2.2.2.2.2.1
      have htt_90 := hh_2.2.2.2.2.2.2.1
      refine W.room (fun hrc_90 hrs_90 => ?_)
      refine W.widen (k := LC - s.heap.size) (n := LS - jTot s.heap) (by omega) (by omega) ?_
      rw [hQ]
      exact W.iret (v := 8) hx hb hr (fun t ht hW => ⟨⟨8, (pf, G0), rfl, by (try dsimp only); exact ⟨(by first | omega | rfl | assumption | fail), (by first | omega | rfl | assumption | fail)⟩, ⟨hh_2.ra (by first | omega | (simp only; omega)) (by first | omega | (simp only; omega)) (M1 := [(r0, 7, 10, .int pf)]) [1] rfl ht, jNk.rf, by rw [ht]; exact hh_2.2.2.2.2.2.2.2.2.sub (L1 := [(jFg, jFr dC dI ca G0 r0)]) [0] rfl⟩⟩, by rw [ht]; try exact hh_2.1.1, fun q h9 hq => by rw [ht]; try exact hh_2.1.2.1 q h9 hq⟩) hh_2.1.2.2 dX5_use_21
set_option maxHeartbeats 4000000 in
set_option maxRecDepth 20000 in
theorem uX5_useZ (l : Launch) (dC : Nat → ClassId) (dI : Nat → Nat → Nat) (ca : Nat → ClassId) (base : Nat) (B : jF) (hB : jBok B) (hAp : jAp (dC, dI)) (hB5 : ∀ n G a H, B 5 n G a H ↔ jOb (dC, dI) 5 4 (F5 n G) a H) (hB7 : ∀ n G a H, B 7 n G a H ↔ jOb (dC, dI) 7 11 (F7 n G) a H) (hB12 : ∀ n G a H, B 12 n G a H ↔ jOb (dC, dI) 12 11 (F12b n G) a H) (hB101 : ∀ n G a H, B 101 n G a H ↔ jAr (dC, dI) (ca 1) (fun j z => True) n a H) (hB211 : ∀ n G a H, B 211 n G a H ↔ jAq (dC, dI) (ca 7) (jQh) n G a H) (hB280 : ∀ n G a H, B 280 n G a H ↔ jAr (dC, dI) (ca 1) (fun j z => -1 ≤ z.toInt) n a H) (hB290 : ∀ n G a H, B 290 n G a H ↔ jAr (dC, dI) (ca 1) (fun j z => 0 ≤ z.toInt ∧ z.toInt ≤ 3000) n a H) (hB291 : ∀ n G a H, B 291 n G a H ↔ jAr (dC, dI) (ca 1) (fun j z => 0 ≤ z.toInt ∧ z.toInt ≤ 3000) n a H) (hB292 : ∀ n G a H, B 292 n G a H ↔ jAr (dC, dI) (ca 1) (fun j z => 0 ≤ z.toInt ∧ z.toInt ≤ 8191) n a H) (hB313 : ∀ n G a H, B 313 n G a H ↔ jAq (dC, dI) (ca 8) (jQk 280 80) n G a H) (hB315 : ∀ n G a H, B 315 n G a H ↔ jAqZ (dC, dI) (ca 8) n a H) (G0 : jT) (H0 : Heap) (r0 : Nat) (r1 : Nat) (n1 : Nat) (pf : Int32) (LC LS : Nat) : Met l yX5_use (jw yX5_use cX5_use 3 (some .int)) ({ frames := 4, cells := LC - H0.size, slots := LS - jTot H0, locals := 128 }) (va_Pc [.ref r0, .ref r1, .null] (fun U => U.heap = H0 ∧ jX B base G0 [] H0 ∧ jG dC dI ca base U ∧ jK2 dC dI ca U ∧ jK5 dC dI ca U ∧ G0 r0 = some (7, 0) ∧ G0 r1 = some (5, n1) ∧ jP (dC, dI) G0 H0 [(r0, 7, 10, .int pf)] ∧ jIs (dC, dI) G0 H0 [(jFg, jFr dC dI ca G0 r0)] ∧ H0.size + 4 ≤ LC ∧ jTot H0 + 120 ≤ LS ∧ 0 ≤ pf.toInt ∧ pf.toInt ≤ 100 ∧ n1 % 10 = 1)) (va_Qi (S := Int32 × jT) (fun r u => (pf.toInt ≤ u.1.toInt ∧ u.1.toInt ≤ pf.toInt + 1)) (fun u t => jRa (dC, dI) B base G0 u.2 EX5_useZ H0 (4) (120) [(r0, 7, 10, .int u.1)] t.heap ∧ (jNk [0, 1, 2, 3, 4, 6, 7, 8, 9, 10, 11, 12, 13, 14, 15, 16, 17, 175]) G0 u.2 ∧ jIs (dC, dI) u.2 t.heap [(jFg, jFr dC dI ca u.2 r0)]) (jA base)) (LC - H0.size) (LS - jTot H0) (jA base) := by
  refine Met.ofW (cc := cX5_use) (maxL := 3) (ret := (some .int)) (by decide) rfl ?_
  intro p e s m args below meth c s₁ Bd hml hv
  obtain ⟨rfl, hH0, hX, hG, hK2, hK5, hg_r0, hg_r1, hP0, hI0, hLC0, hLS0, hp0, hp1, hp2⟩ := hv
  have hK := hG.1
  have hx := Bd.exec
  have hb := Bd.bytes
  have hr := Bd.returns
  have hts := atoms_spec (ws := (jw yX5_use cX5_use 3 (some .int))) Bd.pre
  have htw : ∀ w ∈ jWl, w.before _ s = true := fun w h => hts w (List.mem_cons_of_mem _ h)
  have hown : s.vm.findClass RX5 = some m.cls := findClass_of_methodNamed Bd.named
  have hlocks := Bd.notSynchronized
  obtain ⟨Q, hQ⟩ : ∃ Q, Q = MQ below (va_Qi (S := Int32 × jT) (fun r u => (pf.toInt ≤ u.1.toInt ∧ u.1.toInt ≤ pf.toInt + 1)) (fun u t => jRa (dC, dI) B base G0 u.2 EX5_useZ H0 (4) (120) [(r0, 7, 10, .int u.1)] t.heap ∧ (jNk [0, 1, 2, 3, 4, 6, 7, 8, 9, 10, 11, 12, 13, 14, 15, 16, 17, 175]) G0 u.2 ∧ jIs (dC, dI) u.2 t.heap [(jFg, jFr dC dI ca u.2 r0)]) (jA base)) ([.ref r0, .ref r1, .null] : List Value).toArray s (LC - H0.size) (LS - jTot H0) (jA base) := ⟨_, rfl⟩
  rw [← hQ]
  have hl := lv_entry ([.ref r0, .ref r1, .null]) (n := 3) (Nat.le_of_ble_eq_true rfl)
  rw [lg_entry_eq]
  generalize (lg_sl ([.ref r0, .ref r1, .null]) ++ List.replicate (3 - (lg_sl ([.ref r0, .ref r1, .null])).length) Slot.unset).toArray = ls at hl ⊢
  have hl : lv_has ls 3 [(0, .ref r0), (1, .ref r1), (2, .null)] := hl
  generalize hR : (headSpec (jw yX5_use cX5_use 3 (some .int)) ({ frames := 4, cells := LC - H0.size, slots := LS - jTot H0, locals := 128 })).room = R
  subst hH0
  have hh : jSt (dC, dI) B base G0 G0 EX5_useZ s.heap 0 0 [(r0, 7, 10, .int pf)] [] [(jFg, jFr dC dI ca G0 r0)] s.heap [] := jSt.start hX hP0 jMc.nil hI0
  clear hX hP0
  have hk0 : (0 : Int32).toInt = 0 := by decide
  have hk1 : (1 : Int32).toInt = 1 := by decide
  have hk5 : (5 : Int32).toInt = 5 := by decide
  have hk8 : (8 : Int32).toInt = 8 := by decide
  have hk15 : (15 : Int32).toInt = 15 := by decide
  have hly_5_3 := htw (u_lay RX3 TX3 3) (jWc_wsX30 _ (u_in_lay (by decide)))
  have hly_7_1 := htw (u_lay RX5 TX5 1) (jWc_wsX50 _ (u_in_lay (by decide)))
  have hly_12_6 := htw (u_lay RX10 TX10 6) (jWc_wsX100 _ (u_in_lay (by decide)))
  have hly_12_9 := htw (u_lay RX10 TX10 9) (jWc_wsX100 _ (u_in_lay (by decide)))
  have hly_12_10 := htw (u_lay RX10 TX10 10) (jWc_wsX100 _ (u_in_lay (by decide)))
  have hlk_23 := (htw (.fieldLink RX5 23 "ProofServer$Kernel" "syntax" "LProofServer$Syntax;") (jWr_4 _ (List.mem_of_getElem? (i := 15) rfl)))
  have hlk_93 := (htw (.fieldLink RX5 93 "ProofServer$Syntax" "told" "[I") (jWr_81 _ (List.mem_of_getElem? (i := 8) rfl)))
  have hlk_121 := (htw (.fieldLink RX5 121 "ProofServer$Syntax" "nodes" "[I") (jWr_82 _ (List.mem_of_getElem? (i := 7) rfl)))
  have hlk_114 := (htw (.fieldLink RX5 114 "ProofServer$Syntax" "nodeCount" "I") (jWr_82 _ (List.mem_of_getElem? (i := 5) rfl)))
  have hlk_190 := (htw (.fieldLink RX5 190 "ProofServer$Goal" "formula" "[I") (jWr_84 _ (List.mem_of_getElem? (i := 15) rfl)))
  have hbs : base ≤ s.heap.size := Nat.le_of_lt (Nat.lt_of_le_of_lt (hh.ab hg_r0).1 (hh.ab hg_r0).2)
  have hRc : R.cells = LC - s.heap.size := by rw [← hR]; rfl
  have hRs : R.slots = LS - jTot s.heap := by rw [← hR]; rfl
  obtain ⟨v_1, hv_1, hh_2⟩ := hh.pin (C := RX3) (T := TX3) (N := 4) hB5 rfl (by decide) hg_r1 (i := 2) (by decide) rfl
  obtain ⟨hypotheses_3, khypotheses_3, rfl, hg_hypotheses_3, hhahypotheses_3, hhbhypotheses_3, hhchypotheses_3, hhdhypotheses_3, hhehypotheses_3⟩ := hv_1
  obtain rfl : khypotheses_3 = 313 := hhbhypotheses_3 (by omega)
  refine j7_nld_n hx hb dX5_use_0 rfl (lv_at hl 2 rfl) ?_
  refine lv_ifnullN (tgt := 19) hx hb dX5_use_1 (by decide) ?_
  refine lv_bipush (v := 8) hx hb dX5_use_19 (by decide) ?_
  have hsz_4 := hh_2.2.2.2.2.2.1
  have htt_4 := hh_2.2.2.2.2.2.2.1
  refine W.room (fun hrc_4 hrs_4 => ?_)
  refine W.widen (k := LC - s.heap.size) (n := LS - jTot s.heap) (by omega) (by omega) ?_
  rw [hQ]
  exact W.iret (v := 8) hx hb hr (fun t ht hW => ⟨⟨8, (pf, G0), rfl, by (try dsimp only); exact ⟨(by first | omega | rfl | assumption | fail), (by first | omega | rfl | assumption | fail)⟩, ⟨hh_2.ra (by first | omega | (simp only; omega)) (by first | omega | (simp only; omega)) (M1 := [(r0, 7, 10, .int pf)]) [1] rfl ht, jNk.rf, by rw [ht]; exact hh_2.2.2.2.2.2.2.2.2.sub (L1 := [(jFg, jFr dC dI ca G0 r0)]) [0] rfl⟩⟩, by rw [ht]; try exact hh_2.1.1, fun q h9 hq => by rw [ht]; try exact hh_2.1.2.1 q h9 hq⟩) hh_2.1.2.2 dX5_use_21
set_option maxHeartbeats 4000000 in
set_option maxRecDepth 20000 in
theorem uX5_have (l : Launch) (dC : Nat → ClassId) (dI : Nat → Nat → Nat) (ca : Nat → ClassId) (base : Nat) (B : jF) (hB : jBok B) (hAp : jAp (dC, dI)) (hB5 : ∀ n G a H, B 5 n G a H ↔ jOb (dC, dI) 5 4 (F5 n G) a H) (hB7 : ∀ n G a H, B 7 n G a H ↔ jOb (dC, dI) 7 11 (F7 n G) a H) (hB12 : ∀ n G a H, B 12 n G a H ↔ jOb (dC, dI) 12 11 (F12b n G) a H) (hB101 : ∀ n G a H, B 101 n G a H ↔ jAr (dC, dI) (ca 1) (fun j z => True) n a H) (hB211 : ∀ n G a H, B 211 n G a H ↔ jAq (dC, dI) (ca 7) (jQh) n G a H) (hB280 : ∀ n G a H, B 280 n G a H ↔ jAr (dC, dI) (ca 1) (fun j z => -1 ≤ z.toInt) n a H) (hB292 : ∀ n G a H, B 292 n G a H ↔ jAr (dC, dI) (ca 1) (fun j z => 0 ≤ z.toInt ∧ z.toInt ≤ 8191) n a H) (hB313 : ∀ n G a H, B 313 n G a H ↔ jAq (dC, dI) (ca 8) (jQk 280 80) n G a H) (G0 : jT) (H0 : Heap) (r0 : Nat) (r1 : Nat) (n1 : Nat) (pf : Int32) (LC LS : Nat) : Met l yX5_have (jw yX5_have cX5_have 3 (some .int)) ({ frames := 4, cells := LC - H0.size, slots := LS - jTot H0, locals := 128 }) (va_Pc [.ref r0, .ref r1] (fun U => U.heap = H0 ∧ jX B base G0 [] H0 ∧ jG dC dI ca base U ∧ jK2 dC dI ca U ∧ jK5 dC dI ca U ∧ G0 r0 = some (7, 0) ∧ G0 r1 = some (5, n1) ∧ jP (dC, dI) G0 H0 [(r0, 7, 10, .int pf)] ∧ jIs (dC, dI) G0 H0 [(jFg, jFr dC dI ca G0 r0)] ∧ H0.size + 5 ≤ LC ∧ jTot H0 + 150 ≤ LS ∧ 0 ≤ pf.toInt ∧ pf.toInt ≤ 100 ∧ n1 % 10 = 1)) (va_Qi (S := Int32 × jT) (fun r u => (pf.toInt ≤ u.1.toInt ∧ u.1.toInt ≤ pf.toInt + 2)) (fun u t => jRa (dC, dI) B base G0 u.2 EX5_have H0 (5) (150) [(r0, 7, 10, .int u.1)] t.heap ∧ (jNk [0, 1, 2, 3, 4, 6, 7, 8, 9, 10, 11, 12, 13, 14, 15, 16, 17, 175]) G0 u.2 ∧ jIs (dC, dI) u.2 t.heap [(jFg, jFr dC dI ca u.2 r0)]) (jA base)) (LC - H0.size) (LS - jTot H0) (jA base) := by
  refine Met.ofW (cc := cX5_have) (maxL := 3) (ret := (some .int)) (by decide) rfl ?_
  intro p e s m args below meth c s₁ Bd hml hv
  obtain ⟨rfl, hH0, hX, hG, hK2, hK5, hg_r0, hg_r1, hP0, hI0, hLC0, hLS0, hp0, hp1, hp2⟩ := hv
  have hK := hG.1
  have hx := Bd.exec
  have hb := Bd.bytes
  have hr := Bd.returns
  have hts := atoms_spec (ws := (jw yX5_have cX5_have 3 (some .int))) Bd.pre
  have htw : ∀ w ∈ jWl, w.before _ s = true := fun w h => hts w (List.mem_cons_of_mem _ h)
  have hown : s.vm.findClass RX5 = some m.cls := findClass_of_methodNamed Bd.named
  have hlocks := Bd.notSynchronized
  obtain ⟨Q, hQ⟩ : ∃ Q, Q = MQ below (va_Qi (S := Int32 × jT) (fun r u => (pf.toInt ≤ u.1.toInt ∧ u.1.toInt ≤ pf.toInt + 2)) (fun u t => jRa (dC, dI) B base G0 u.2 EX5_have H0 (5) (150) [(r0, 7, 10, .int u.1)] t.heap ∧ (jNk [0, 1, 2, 3, 4, 6, 7, 8, 9, 10, 11, 12, 13, 14, 15, 16, 17, 175]) G0 u.2 ∧ jIs (dC, dI) u.2 t.heap [(jFg, jFr dC dI ca u.2 r0)]) (jA base)) ([.ref r0, .ref r1] : List Value).toArray s (LC - H0.size) (LS - jTot H0) (jA base) := ⟨_, rfl⟩
  rw [← hQ]
  have hl := lv_entry ([.ref r0, .ref r1]) (n := 3) (Nat.le_of_ble_eq_true rfl)
  rw [lg_entry_eq]
  generalize (lg_sl ([.ref r0, .ref r1]) ++ List.replicate (3 - (lg_sl ([.ref r0, .ref r1])).length) Slot.unset).toArray = ls at hl ⊢
  have hl : lv_has ls 3 [(0, .ref r0), (1, .ref r1)] := hl
  generalize hR : (headSpec (jw yX5_have cX5_have 3 (some .int)) ({ frames := 4, cells := LC - H0.size, slots := LS - jTot H0, locals := 128 })).room = R
  subst hH0
  have hh : jSt (dC, dI) B base G0 G0 EX5_have s.heap 0 0 [(r0, 7, 10, .int pf)] [] [(jFg, jFr dC dI ca G0 r0)] s.heap [] := jSt.start hX hP0 jMc.nil hI0
  clear hX hP0
  have hk0 : (0 : Int32).toInt = 0 := by decide
  have hk1 : (1 : Int32).toInt = 1 := by decide
  have hk9 : (9 : Int32).toInt = 9 := by decide
  have hk80 : (80 : Int32).toInt = 80 := by decide
  have hly_5_3 := htw (u_lay RX3 TX3 3) (jWc_wsX30 _ (u_in_lay (by decide)))
  have hly_7_1 := htw (u_lay RX5 TX5 1) (jWc_wsX50 _ (u_in_lay (by decide)))
  have hly_12_6 := htw (u_lay RX10 TX10 6) (jWc_wsX100 _ (u_in_lay (by decide)))
  have hly_12_9 := htw (u_lay RX10 TX10 9) (jWc_wsX100 _ (u_in_lay (by decide)))
  have hly_12_10 := htw (u_lay RX10 TX10 10) (jWc_wsX100 _ (u_in_lay (by decide)))
  have hlk_23 := (htw (.fieldLink RX5 23 "ProofServer$Kernel" "syntax" "LProofServer$Syntax;") (jWr_4 _ (List.mem_of_getElem? (i := 15) rfl)))
  have hlk_114 := (htw (.fieldLink RX5 114 "ProofServer$Syntax" "nodeCount" "I") (jWr_82 _ (List.mem_of_getElem? (i := 5) rfl)))
  have hlk_121 := (htw (.fieldLink RX5 121 "ProofServer$Syntax" "nodes" "[I") (jWr_82 _ (List.mem_of_getElem? (i := 7) rfl)))
  have hlk_93 := (htw (.fieldLink RX5 93 "ProofServer$Syntax" "told" "[I") (jWr_81 _ (List.mem_of_getElem? (i := 8) rfl)))
  have hlk_190 := (htw (.fieldLink RX5 190 "ProofServer$Goal" "formula" "[I") (jWr_84 _ (List.mem_of_getElem? (i := 15) rfl)))
  have hbs : base ≤ s.heap.size := Nat.le_of_lt (Nat.lt_of_le_of_lt (hh.ab hg_r0).1 (hh.ab hg_r0).2)
  have hRc : R.cells = LC - s.heap.size := by rw [← hR]; rfl
  have hRs : R.slots = LS - jTot s.heap := by rw [← hR]; rfl
  obtain ⟨v_1, hv_1, hh_2⟩ := hh.pin (C := RX3) (T := TX3) (N := 4) hB5 rfl (by decide) hg_r1 (i := 2) (by decide) rfl
  obtain ⟨hypotheses_3, khypotheses_3, rfl, hg_hypotheses_3, hhahypotheses_3, hhbhypotheses_3, hhchypotheses_3, hhdhypotheses_3, hhehypotheses_3⟩ := hv_1
  obtain rfl : khypotheses_3 = 313 := hhbhypotheses_3 (by omega)
  refine lv_aload_n hx hb dX5_have_0 rfl (lv_at hl 0 rfl) ?_
  obtain ⟨v_4, hv_4, hh_5⟩ := hh_2.pin (C := RX5) (T := TX5) (N := 11) hB7 rfl (by decide) hg_r0 (i := 1) (by decide) rfl
  clear hh_2
  obtain ⟨syntax_6, rfl, hg_syntax_6⟩ := hv_4
  refine j7_read hx hb hown hK (C := RX5) (T := TX5) (N := 11) rfl hly_7_1 hlk_23 (hh_5.at 0 rfl) dX5_have_1 ?_
  obtain ⟨v_7, hv_7, hh_8⟩ := hh_5.pin (C := RX10) (T := TX10) (N := 11) hB12 rfl (by decide) hg_syntax_6 (i := 10) (by decide) rfl
  clear hh_5
  obtain ⟨nodeCount_9, rfl, hlonodeCount_9, hhinodeCount_9⟩ := hv_7
  refine j7_read hx hb hown hK (C := RX10) (T := TX10) (N := 11) rfl hly_12_10 hlk_114 (hh_8.at 0 rfl) dX5_have_4 ?_
  refine lv_bipush (v := 80) hx hb dX5_have_7 (by decide) ?_
  refine lv_icmp_le (tgt := 15) hx hb dX5_have_9 (by decide) (fun c_10 => ?_) (fun c_10 => ?_)
  · skip
    have c_10' : nodeCount_9.toInt ≤ 80 := jb_le (rfl) ((by decide)) c_10
    refine lv_aload_n hx hb dX5_have_15 rfl (lv_at hl 0 rfl) ?_
    refine j7_read hx hb hown hK (C := RX5) (T := TX5) (N := 11) rfl hly_7_1 hlk_23 (hh_8.at 1 rfl) dX5_have_16 ?_
    obtain ⟨v_11, hv_11, hh_12⟩ := hh_8.pin (C := RX10) (T := TX10) (N := 11) hB12 rfl (by decide) hg_syntax_6 (i := 9) (by decide) rfl
    clear hh_8
    obtain ⟨nodes_13, rfl, hg_nodes_13⟩ := hv_11
    refine j7_read hx hb hown hK (C := RX10) (T := TX10) (N := 11) rfl hly_12_9 hlk_121 (hh_12.at 0 rfl) dX5_have_19 ?_
    refine lv_aload_n hx hb dX5_have_22 rfl (lv_at hl 0 rfl) ?_
    refine j7_read hx hb hown hK (C := RX5) (T := TX5) (N := 11) rfl hly_7_1 hlk_23 (hh_12.at 2 rfl) dX5_have_23 ?_
    refine j7_read hx hb hown hK (C := RX10) (T := TX10) (N := 11) rfl hly_12_10 hlk_114 (hh_12.at 1 rfl) dX5_have_26 ?_
    have hsz_14 := hh_12.2.2.2.2.2.1
    have htt_14 := hh_12.2.2.2.2.2.2.1
    refine W.room (fun hrc_14 hrs_14 => ?_)
    refine j_callx (A0 := jA base) (H0 := s.heap) (va_runS (As := [.ref nodes_13, .int nodeCount_9]) (rest := []) ⟨hx, hb, hml, hown, hts⟩ (uJ7_copyOf_59c91P l dC dI ca base B hB hAp hB280 G0 s.heap nodes_13 nodeCount_9 3000 LC LS) (va_cwS 2 hts (jgS (jWr_82 _ (List.mem_of_getElem? (i := 21) rfl)) (jWr_81 _ (List.mem_of_getElem? (i := 23) rfl)) (jWr_16 _ (List.mem_of_getElem? (i := 7) rfl)) (jWr_82 _ (List.mem_of_getElem? (i := 0) rfl))) rfl rfl rfl (by decide +kernel) ⟨by rw [← hR]; exact Nat.le_of_ble_eq_true rfl, by rw [← hR]; exact Nat.le_of_ble_eq_true rfl⟩) ⟨fun a U g mk q => by obtain ⟨q0, q1, q2, qK, q10, q11, q12⟩ := q; exact ⟨q0, q1, q2, jG.calling g mk a qK, q10, q11, q12⟩, fun U hU hW => ⟨rfl, hU, hh_12.2.1, hG.step hW hU hh_12.1, hg_nodes_13, jP.nil, by first | omega | (refine ⟨?_, ?_, ?_, ?_⟩ <;> (first | omega | rfl | assumption | decide | exact Or.inl rfl | exact Or.inr rfl | (simp only; omega)))⟩⟩ rfl rfl hl.1 rfl (lv_room (Nat.le_of_ble_eq_true rfl)) dX5_have_29 ⟨by rw [hRc]; omega, by rw [hRs]; omega⟩) hh_12.1 (fun q _ h => h) (fun q h => h) (fun r_15 u_14 t_14 H_14 locs_14 ht_14 hvm_14 hr_15 hb_14 hz_14 hk_14 hS_14 => ?_)
    rw [ht_14] at hb_14
    obtain ⟨m_ret_14, G_14⟩ := u_14
    simp only at hb_14
    obtain ⟨⟨hb_141, hb_142, hb_143, hb_144, hb_145, hb_146⟩, hN_14, hbK_14⟩ := hb_14
    have hN_14 : (jNk [0, 1, 2, 3, 4, 6, 7, 8, 9, 10, 11, 12, 13, 14, 15, 16, 17, 175]) G0 G_14 := hN_14.sub (by decide)
    have hh_14 : jSt (dC, dI) B base G0 G_14 EX5_have s.heap (0 + (1)) (0 + (m_ret_14)) [(syntax_6, 12, 9, .ref nodes_13), (syntax_6, 12, 10, .int nodeCount_9), (r0, 7, 1, .ref syntax_6), (r1, 5, 2, .ref hypotheses_3), (r0, 7, 10, .int pf)] [] [(jFg, jFr dC dI ca G0 r0)] H_14 locs_14 := (hh_12.callG hb_141 hb_142 hb_143 hb_144 hb_145 hS_14 rfl (L1 := [(syntax_6, 12, 9, .ref nodes_13), (syntax_6, 12, 10, .int nodeCount_9), (r0, 7, 1, .ref syntax_6), (r1, 5, 2, .ref hypotheses_3), (r0, 7, 10, .int pf)]) [0, 1, 2, 3, 4] rfl rfl (M1 := []) [] rfl rfl (I1 := [(jFg, jFr dC dI ca G0 r0)]) [0] rfl rfl).more hb_146
    have hNn_14 : (jNk [0, 1, 2, 3, 4, 6, 7, 8, 9, 10, 11, 12, 13, 14, 15, 16, 17, 175]) G0 G_14 := (jNk.rf).tr hN_14
    have hg_16 := hb_142 _ _ hg_r0
    have hg_17 := hb_142 _ _ hg_r1
    have hg_18 := hb_142 _ _ hg_nodes_13
    have hg_19 := hb_142 _ _ hg_syntax_6
    have hg_20 := hb_142 _ _ hg_hypotheses_3
    have hd_21 := jFr.grow (hh_14.iv 0 rfl) hb_142
    have hh_22 := hh_14.sub (L1 := [(syntax_6, 12, 9, .ref nodes_13), (syntax_6, 12, 10, .int nodeCount_9), (r0, 7, 1, .ref syntax_6), (r1, 5, 2, .ref hypotheses_3), (r0, 7, 10, .int pf)]) [0, 1, 2, 3, 4] rfl (M1 := []) [] rfl (I1 := []) [] rfl
    clear hh_14
    have hh_23 := hh_22.addI (jFr.ie hd_21)
    clear hh_22
    obtain ⟨hr_15, hr_15n, hr_15p⟩ := hr_15
    try simp only at hr_15p
    obtain ⟨ret_24, rfl, hg_ret_24⟩ := hr_15
    have hsy_14 : s.heap.size ≤ ret_24 := Nat.le_trans hh_12.1.1 hr_15n.le
    refine lv_astore_n (lv' := [(2, .ref ret_24), (0, .ref r0), (1, .ref r1)]) hx hb dX5_have_32 rfl hl (by decide) rfl (fun ls hl => ?_)
    refine lv_aload_n hx hb dX5_have_33 rfl (lv_at hl 1 rfl) ?_
    refine lv_aload_n hx hb dX5_have_34 rfl (lv_at hl 2 rfl) ?_
    refine lv_aload_n hx hb dX5_have_35 rfl (lv_at hl 0 rfl) ?_
    have hsz_25 := hh_23.2.2.2.2.2.1
    have htt_25 := hh_23.2.2.2.2.2.2.1
    refine W.room (fun hrc_25 hrs_25 => ?_)
    refine j_callx (A0 := jA base) (H0 := s.heap) (va_runV (As := [.ref ret_24]) (rest := [.ref r0]) ⟨hx, hb, hml, hown, hts⟩ (uX3_withFormula l dC dI ca base B hB hAp hB5 hB101 hB280 hB313 G_14 H_14 r1 ret_24 n1 m_ret_14 LC LS) (cwV 1 hts (jgV (jWr_87 _ (List.mem_of_getElem? (i := 10) rfl)) (jWr_87 _ (List.mem_of_getElem? (i := 11) rfl)) (jWr_87 _ (List.mem_of_getElem? (i := 12) rfl)) (jWr_82 _ (List.mem_of_getElem? (i := 10) rfl)) (jWr_87 _ (List.mem_of_getElem? (i := 13) rfl))) rfl rfl rfl (by decide +kernel) ⟨by rw [← hR]; exact Nat.le_of_ble_eq_true rfl, by rw [← hR]; exact Nat.le_of_ble_eq_true rfl⟩) ⟨fun a U g mk q => by obtain ⟨q0, q1, q2, qK, q10, q11, q12, q13⟩ := q; exact ⟨q0, q1, q2, jG.calling g mk a qK, q10, q11, q12, q13⟩, hh_23.recv (C := RX3) (T := TX3) (N := 4) hB5 rfl (by decide) hg_17 hK, fun U hU hW => ⟨rfl, hU, hh_23.2.1, hG.step hW hU hh_23.1, hg_17, hg_ret_24, jP.nil, by first | omega | (refine ⟨?_, ?_⟩ <;> (first | omega | rfl | assumption | decide | exact Or.inl rfl | exact Or.inr rfl | (simp only; omega)))⟩⟩ rfl rfl hl.1 rfl (lv_room (Nat.le_of_ble_eq_true rfl)) dX5_have_36 ⟨by rw [hRc]; omega, by rw [hRs]; omega⟩) hh_23.1 (fun q _ h => h) (fun q h => h) (fun r_26 u_25 t_25 H_25 locs_25 ht_25 hvm_25 hr_26 hb_25 hz_25 hk_25 hS_25 => ?_)
    rw [ht_25] at hb_25
    obtain ⟨m_ret_25, G_25⟩ := u_25
    simp only at hb_25
    obtain ⟨⟨hb_251, hb_252, hb_253, hb_254, hb_255, hb_256⟩, hN_25⟩ := hb_25
    have hh_25 : jSt (dC, dI) B base G0 G_25 EX5_have s.heap ((0 + (1)) + (1)) ((0 + (m_ret_14)) + (4)) [(syntax_6, 12, 9, .ref nodes_13), (syntax_6, 12, 10, .int nodeCount_9), (r0, 7, 1, .ref syntax_6), (r1, 5, 2, .ref hypotheses_3), (r0, 7, 10, .int pf)] [] [(jFg, jFr dC dI ca G_14 r0)] H_25 locs_25 := (hh_23.callG hb_251 hb_252 hb_253 hb_254 hb_255 hS_25 rfl (L1 := [(syntax_6, 12, 9, .ref nodes_13), (syntax_6, 12, 10, .int nodeCount_9), (r0, 7, 1, .ref syntax_6), (r1, 5, 2, .ref hypotheses_3), (r0, 7, 10, .int pf)]) [0, 1, 2, 3, 4] rfl rfl (M1 := []) [] rfl rfl (I1 := [(jFg, jFr dC dI ca G_14 r0)]) [0] rfl rfl).more hb_256
    have hNn_25 : (jNk [0, 1, 2, 3, 4, 6, 7, 8, 9, 10, 11, 12, 13, 14, 15, 16, 17, 175]) G0 G_25 := (hNn_14).tr hN_25
    have hg_27 := hb_252 _ _ hg_ret_24
    have hg_28 := hb_252 _ _ hg_16
    have hg_29 := hb_252 _ _ hg_17
    have hg_30 := hb_252 _ _ hg_18
    have hg_31 := hb_252 _ _ hg_19
    have hg_32 := hb_252 _ _ hg_20
    have hd_33 := jFr.grow (hh_25.iv 0 rfl) hb_252
    have hh_34 := hh_25.sub (L1 := [(syntax_6, 12, 9, .ref nodes_13), (syntax_6, 12, 10, .int nodeCount_9), (r0, 7, 1, .ref syntax_6), (r1, 5, 2, .ref hypotheses_3), (r0, 7, 10, .int pf)]) [0, 1, 2, 3, 4] rfl (M1 := []) [] rfl (I1 := []) [] rfl
    clear hh_25
    have hh_35 := hh_34.addI (jFr.ie hd_33)
    clear hh_34
    obtain ⟨hr_26, hr_26n, hr_26p⟩ := hr_26
    try simp only at hr_26p
    obtain ⟨ret_36, rfl, hg_ret_36⟩ := hr_26
    have hsy_25 : s.heap.size ≤ ret_36 := Nat.le_trans hh_23.1.1 hr_26n.le
    have hsz_37 := hh_35.2.2.2.2.2.1
    have htt_37 := hh_35.2.2.2.2.2.2.1
    refine W.room (fun hrc_37 hrs_37 => ?_)
    refine va_calli (A0 := jA base) (H0 := s.heap) (va_runV (As := [.ref ret_36]) (rest := []) ⟨hx, hb, hml, hown, hts⟩ (uX5_add l dC dI ca base B hB hAp hB5 hB7 hB211 G_25 H_25 r0 ret_36 m_ret_25 pf) (cwV 1 hts (jgV (jWr_85 _ (List.mem_of_getElem? (i := 8) rfl)) (jWr_85 _ (List.mem_of_getElem? (i := 9) rfl)) (jWr_85 _ (List.mem_of_getElem? (i := 10) rfl)) (jWr_2 _ (List.mem_of_getElem? (i := 4) rfl)) (jWr_85 _ (List.mem_of_getElem? (i := 11) rfl))) rfl rfl rfl (by decide +kernel) ⟨by rw [← hR]; exact Nat.le_of_ble_eq_true rfl, by rw [← hR]; exact Nat.le_of_ble_eq_true rfl⟩) ⟨fun a U g mk q => by obtain ⟨q0, q1, q2, qK, q10, q11, q12, q13, q14, q15⟩ := q; exact ⟨q0, q1, q2, jG.calling g mk a qK, (va_K.moved (Vm.Alike.refl U.vm) q10), q11, q12, q13, q14, q15⟩, hh_35.recv (C := RX5) (T := TX5) (N := 11) hB7 rfl (by decide) hg_28 hK, fun U hU hW => ⟨rfl, hU, hh_35.2.1, hG.step hW hU hh_35.1, va_K.moved hW.alike hK2, hg_28, hg_ret_36, (hh_35.2.2.1.sub (L1 := [(r0, 7, 10, .int pf)]) [4] rfl), (hh_35.2.2.2.2.2.2.2.2.sub (L1 := [(jFg, jFr dC dI ca G_25 r0)]) [0] rfl), by first | omega | (refine ⟨?_, ?_, ?_⟩ <;> (first | omega | rfl | assumption | decide | exact Or.inl rfl | exact Or.inr rfl | (simp only; omega)))⟩⟩ rfl rfl hl.1 rfl (lv_room (Nat.le_of_ble_eq_true rfl)) dX5_have_39 ⟨by rw [hRc]; show _ + 0 ≤ _; omega, by rw [hRs]; show _ + 0 ≤ _; omega⟩) hh_35.1 (fun q _ h => h) (fun q h => h) (fun r_38 u_37 t_37 H_37 locs_37 ht_37 hvm_37 hr_38 hb_37 hz_37 hk_37 hS_37 => ?_)
    obtain ⟨qf_37, rfl⟩ : ∃ z, z = u_37 := ⟨_, rfl⟩
    rw [ht_37] at hb_37
    obtain ⟨hb_37, hbE_37⟩ := hb_37
    obtain ⟨hb_371, hb_372, hb_373, hb_374, hb_375⟩ := hb_37
    have hh_37 : jSt (dC, dI) B base G0 G_25 EX5_have s.heap ((0 + (1)) + (1)) ((0 + (m_ret_14)) + (4)) [(r0, 7, 10, .int qf_37), (syntax_6, 12, 9, .ref nodes_13), (syntax_6, 12, 10, .int nodeCount_9), (r0, 7, 1, .ref syntax_6), (r1, 5, 2, .ref hypotheses_3)] [] [(jFg, jFr dC dI ca G_25 r0)] H_37 locs_37 := (((hh_35.call hb_371 hb_372 hb_373 hb_374 hS_37 rfl (L1 := [(syntax_6, 12, 9, .ref nodes_13), (syntax_6, 12, 10, .int nodeCount_9), (r0, 7, 1, .ref syntax_6), (r1, 5, 2, .ref hypotheses_3)]) [0, 1, 2, 3] rfl rfl (M1 := []) [] rfl rfl (I1 := []) [] rfl rfl).more hb_375)).addIs hbE_37
    clear hh_35 ht_37 hvm_37 hz_37 hk_37 hS_37 hb_371 hb_372 hb_373 hb_374 hb_375
    clear  hbE_37
    obtain ⟨hr_38_0, hr_38_1⟩ := hr_38
    refine lv_pop hx hb dX5_have_42 rfl ?_
    refine lv_aload_n hx hb dX5_have_43 rfl (lv_at hl 1 rfl) ?_
    refine lv_aload_n hx hb dX5_have_44 rfl (lv_at hl 2 rfl) ?_
    refine lv_aload_n hx hb dX5_have_45 rfl (lv_at hl 1 rfl) ?_
    refine j7_read hx hb hown hK (C := RX5) (T := TX5) (N := 11) rfl hly_7_1 hlk_23 (hh_37.at 3 rfl) dX5_have_46 ?_
    obtain ⟨v_39, hv_39, hh_40⟩ := hh_37.pin (C := RX10) (T := TX10) (N := 11) hB12 rfl (by decide) hg_31 (i := 6) (by decide) rfl
    clear hh_37
    obtain ⟨told_41, rfl, hg_told_41⟩ := hv_39
    refine j7_read hx hb hown hK (C := RX10) (T := TX10) (N := 11) rfl hly_12_6 hlk_93 (hh_40.at 0 rfl) dX5_have_49 ?_
    refine lv_iconst (v := 0) hx hb dX5_have_52 (by decide) ?_
    refine j7_iald hx hb hK hh_40 hB292 1 rfl (by decide) hg_told_41 (x := 0) ((by decide)) (by omega) dX5_have_53 (fun z_42 (hz_42 : 0 ≤ z_42.toInt ∧ z_42.toInt ≤ 8191) => ?_)
    refine lv_aload_n hx hb dX5_have_54 rfl (lv_at hl 0 rfl) ?_
    refine lv_aload_n hx hb dX5_have_55 rfl (lv_at hl 2 rfl) ?_
    obtain ⟨v_43, hv_43, hh_44⟩ := hh_40.pin (C := RX3) (T := TX3) (N := 4) hB5 rfl (by decide) hg_29 (i := 3) (by decide) rfl
    clear hh_40
    rcases hv_43 with ⟨rfl, hcv_43⟩ | ⟨formula_45, nformula_45, rfl, hg_formula_45, hn_formula_45, hcv_43, hdv_43⟩
    · exact absurd hcv_43 (by omega)
    refine j7_read hx hb hown hK (C := RX3) (T := TX3) (N := 4) rfl hly_5_3 hlk_190 (hh_44.at 0 rfl) dX5_have_56 ?_
    have hsz_46 := hh_44.2.2.2.2.2.1
    have htt_46 := hh_44.2.2.2.2.2.2.1
    refine W.room (fun hrc_46 hrs_46 => ?_)
    refine j_callx (A0 := jA base) (H0 := s.heap) (va_runV (As := [.int z_42, .ref ret_24, .ref formula_45]) (rest := [.ref r0]) ⟨hx, hb, hml, hown, hts⟩ (uX3_withHypothesis l dC dI ca base B hB hAp hB5 hB101 hB280 hB313 G_25 H_37 r1 z_42 ret_24 formula_45 n1 m_ret_14 nformula_45 LC LS) (cwV 3 hts (jgV (jWr_85 _ (List.mem_of_getElem? (i := 0) rfl)) (jWr_85 _ (List.mem_of_getElem? (i := 1) rfl)) (jWr_85 _ (List.mem_of_getElem? (i := 2) rfl)) (jWr_82 _ (List.mem_of_getElem? (i := 10) rfl)) (jWr_85 _ (List.mem_of_getElem? (i := 3) rfl))) rfl rfl rfl (by decide +kernel) ⟨by rw [← hR]; exact Nat.le_of_ble_eq_true rfl, by rw [← hR]; exact Nat.le_of_ble_eq_true rfl⟩) ⟨fun a U g mk q => by obtain ⟨q0, q1, q2, qK, q10, q11, q12, q13, q14, q15⟩ := q; exact ⟨q0, q1, q2, jG.calling g mk a qK, (jK5.moved (Vm.Alike.refl U.vm) q10), q11, q12, q13, q14, q15⟩, hh_44.recv (C := RX3) (T := TX3) (N := 4) hB5 rfl (by decide) hg_29 hK, fun U hU hW => ⟨rfl, hU, hh_44.2.1, hG.step hW hU hh_44.1, jK5.moved hW.alike hK5, hg_29, hg_27, hg_formula_45, jP.nil, by first | omega | (refine ⟨?_, ?_, ?_, ?_⟩ <;> (first | omega | rfl | assumption | decide | exact Or.inl rfl | exact Or.inr rfl | (simp only; omega)))⟩⟩ rfl rfl hl.1 rfl (lv_room (Nat.le_of_ble_eq_true rfl)) dX5_have_59 ⟨by rw [hRc]; omega, by rw [hRs]; omega⟩) hh_44.1 (fun q _ h => h) (fun q h => h) (fun r_47 u_46 t_46 H_46 locs_46 ht_46 hvm_46 hr_47 hb_46 hz_46 hk_46 hS_46 => ?_)
    rw [ht_46] at hb_46
    obtain ⟨m_ret_46, G_46⟩ := u_46
    simp only at hb_46
    obtain ⟨⟨hb_461, hb_462, hb_463, hb_464, hb_465, hb_466⟩, hN_46⟩ := hb_46
    have hh_46 : jSt (dC, dI) B base G0 G_46 EX5_have s.heap (((0 + (1)) + (1)) + (3)) (((0 + (m_ret_14)) + (4)) + (24)) [(r1, 5, 3, .ref formula_45), (syntax_6, 12, 6, .ref told_41), (r0, 7, 10, .int qf_37), (syntax_6, 12, 9, .ref nodes_13), (syntax_6, 12, 10, .int nodeCount_9), (r0, 7, 1, .ref syntax_6), (r1, 5, 2, .ref hypotheses_3)] [] [(jFg, jFr dC dI ca G_25 r0)] H_46 locs_46 := (hh_44.callG hb_461 hb_462 hb_463 hb_464 hb_465 hS_46 rfl (L1 := [(r1, 5, 3, .ref formula_45), (syntax_6, 12, 6, .ref told_41), (r0, 7, 10, .int qf_37), (syntax_6, 12, 9, .ref nodes_13), (syntax_6, 12, 10, .int nodeCount_9), (r0, 7, 1, .ref syntax_6), (r1, 5, 2, .ref hypotheses_3)]) [0, 1, 2, 3, 4, 5, 6] rfl rfl (M1 := []) [] rfl rfl (I1 := [(jFg, jFr dC dI ca G_25 r0)]) [0] rfl rfl).more hb_466
    have hNn_46 : (jNk [0, 1, 2, 3, 4, 6, 7, 8, 9, 10, 11, 12, 13, 14, 15, 16, 17, 175]) G0 G_46 := (hNn_25).tr hN_46
    have hg_48 := hb_462 _ _ hg_27
    have hg_49 := hb_462 _ _ hg_28
    have hg_50 := hb_462 _ _ hg_29
    have hg_51 := hb_462 _ _ hg_formula_45
    have hg_52 := hb_462 _ _ hg_told_41
    have hg_53 := hb_462 _ _ hg_30
    have hg_54 := hb_462 _ _ hg_31
    have hg_55 := hb_462 _ _ hg_32
    have hd_56 := jFr.grow (hh_46.iv 0 rfl) hb_462
    have hh_57 := hh_46.sub (L1 := [(r1, 5, 3, .ref formula_45), (syntax_6, 12, 6, .ref told_41), (r0, 7, 10, .int qf_37), (syntax_6, 12, 9, .ref nodes_13), (syntax_6, 12, 10, .int nodeCount_9), (r0, 7, 1, .ref syntax_6), (r1, 5, 2, .ref hypotheses_3)]) [0, 1, 2, 3, 4, 5, 6] rfl (M1 := []) [] rfl (I1 := []) [] rfl
    clear hh_46
    have hh_58 := hh_57.addI (jFr.ie hd_56)
    clear hh_57
    obtain ⟨hr_47, hr_47n, hr_47p⟩ := hr_47
    try simp only at hr_47p
    obtain ⟨hr_47p_0, hr_47p_1⟩ := hr_47p
    obtain ⟨ret_59, rfl, hg_ret_59⟩ := hr_47
    have hsy_46 : s.heap.size ≤ ret_59 := Nat.le_trans hh_44.1.1 hr_47n.le
    have hsz_60 := hh_58.2.2.2.2.2.1
    have htt_60 := hh_58.2.2.2.2.2.2.1
    refine W.room (fun hrc_60 hrs_60 => ?_)
    refine va_calli (A0 := jA base) (H0 := s.heap) (va_runV (As := [.ref ret_59]) (rest := []) ⟨hx, hb, hml, hown, hts⟩ (uX5_add l dC dI ca base B hB hAp hB5 hB7 hB211 G_46 H_46 r0 ret_59 m_ret_46 qf_37) (cwV 1 hts (jgV (jWr_85 _ (List.mem_of_getElem? (i := 8) rfl)) (jWr_85 _ (List.mem_of_getElem? (i := 9) rfl)) (jWr_85 _ (List.mem_of_getElem? (i := 10) rfl)) (jWr_2 _ (List.mem_of_getElem? (i := 4) rfl)) (jWr_85 _ (List.mem_of_getElem? (i := 11) rfl))) rfl rfl rfl (by decide +kernel) ⟨by rw [← hR]; exact Nat.le_of_ble_eq_true rfl, by rw [← hR]; exact Nat.le_of_ble_eq_true rfl⟩) ⟨fun a U g mk q => by obtain ⟨q0, q1, q2, qK, q10, q11, q12, q13, q14, q15⟩ := q; exact ⟨q0, q1, q2, jG.calling g mk a qK, (va_K.moved (Vm.Alike.refl U.vm) q10), q11, q12, q13, q14, q15⟩, hh_58.recv (C := RX5) (T := TX5) (N := 11) hB7 rfl (by decide) hg_49 hK, fun U hU hW => ⟨rfl, hU, hh_58.2.1, hG.step hW hU hh_58.1, va_K.moved hW.alike hK2, hg_49, hg_ret_59, (hh_58.2.2.1.sub (L1 := [(r0, 7, 10, .int qf_37)]) [2] rfl), (hh_58.2.2.2.2.2.2.2.2.sub (L1 := [(jFg, jFr dC dI ca G_46 r0)]) [0] rfl), by first | omega | (refine ⟨?_, ?_, ?_⟩ <;> (first | omega | rfl | assumption | decide | exact Or.inl rfl | exact Or.inr rfl | (simp only; omega)))⟩⟩ rfl rfl hl.1 rfl (lv_room (Nat.le_of_ble_eq_true rfl)) dX5_have_62 ⟨by rw [hRc]; show _ + 0 ≤ _; omega, by rw [hRs]; show _ + 0 ≤ _; omega⟩) hh_58.1 (fun q _ h => h) (fun q h => h) (fun r_61 u_60 t_60 H_60 locs_60 ht_60 hvm_60 hr_61 hb_60 hz_60 hk_60 hS_60 => ?_)
    obtain ⟨qf_60, rfl⟩ : ∃ z, z = u_60 := ⟨_, rfl⟩
    rw [ht_60] at hb_60
    obtain ⟨hb_60, hbE_60⟩ := hb_60
    obtain ⟨hb_601, hb_602, hb_603, hb_604, hb_605⟩ := hb_60
    have hh_60 : jSt (dC, dI) B base G0 G_46 EX5_have s.heap (((0 + (1)) + (1)) + (3)) (((0 + (m_ret_14)) + (4)) + (24)) [(r0, 7, 10, .int qf_60), (r1, 5, 3, .ref formula_45), (syntax_6, 12, 6, .ref told_41), (syntax_6, 12, 9, .ref nodes_13), (syntax_6, 12, 10, .int nodeCount_9), (r0, 7, 1, .ref syntax_6), (r1, 5, 2, .ref hypotheses_3)] [] [(jFg, jFr dC dI ca G_46 r0)] H_60 locs_60 := (((hh_58.call hb_601 hb_602 hb_603 hb_604 hS_60 rfl (L1 := [(r1, 5, 3, .ref formula_45), (syntax_6, 12, 6, .ref told_41), (syntax_6, 12, 9, .ref nodes_13), (syntax_6, 12, 10, .int nodeCount_9), (r0, 7, 1, .ref syntax_6), (r1, 5, 2, .ref hypotheses_3)]) [0, 1, 3, 4, 5, 6] rfl rfl (M1 := []) [] rfl rfl (I1 := []) [] rfl rfl).more hb_605)).addIs hbE_60
    clear hh_58 ht_60 hvm_60 hz_60 hk_60 hS_60 hb_601 hb_602 hb_603 hb_604 hb_605
    clear  hbE_60
    obtain ⟨hr_61_0, hr_61_1⟩ := hr_61
    have hsz_62 := hh_60.2.2.2.2.2.1
    have htt_62 := hh_60.2.2.2.2.2.2.1
    refine W.room (fun hrc_62 hrs_62 => ?_)
    refine W.widen (k := LC - s.heap.size) (n := LS - jTot s.heap) (by omega) (by omega) ?_
    rw [hQ]
    exact W.iret (v := r_61) hx hb hr (fun t ht hW => ⟨⟨r_61, (qf_60, G_46), rfl, by (try dsimp only); exact ⟨(by first | omega | rfl | assumption | fail), (by first | omega | rfl | assumption | fail)⟩, ⟨hh_60.ra (by first | omega | (simp only; omega)) (by first | omega | (simp only; omega)) (M1 := [(r0, 7, 10, .int qf_60)]) [0] rfl ht, hNn_46, by rw [ht]; exact hh_60.2.2.2.2.2.2.2.2.sub (L1 := [(jFg, jFr dC dI ca G_46 r0)]) [0] rfl⟩⟩, by rw [ht]; try exact hh_60.1.1, fun q h9 hq => by rw [ht]; try exact hh_60.1.2.1 q h9 hq⟩) hh_60.1.2.2 dX5_have_65
  · skip
    have c_10' : nodeCount_9.toInt > 80 := jb_le_n (rfl) ((by decide)) c_10
    refine lv_bipush (v := 9) hx hb dX5_have_12 (by decide) ?_
    have hsz_63 := hh_8.2.2.2.2.2.1
    have htt_63 := hh_8.2.2.2.2.2.2.1
    refine W.room (fun hrc_63 hrs_63 => ?_)
    refine W.widen (k := LC - s.heap.size) (n := LS - jTot s.heap) (by omega) (by omega) ?_
    rw [hQ]
    exact W.iret (v := 9) hx hb hr (fun t ht hW => ⟨⟨9, (pf, G0), rfl, by (try dsimp only); exact ⟨(by first | omega | rfl | assumption | fail), (by first | omega | rfl | assumption | fail)⟩, ⟨hh_8.ra (by first | omega | (simp only; omega)) (by first | omega | (simp only; omega)) (M1 := [(r0, 7, 10, .int pf)]) [3] rfl ht, jNk.rf, by rw [ht]; exact hh_8.2.2.2.2.2.2.2.2.sub (L1 := [(jFg, jFr dC dI ca G0 r0)]) [0] rfl⟩⟩, by rw [ht]; try exact hh_8.1.1, fun q h9 hq => by rw [ht]; try exact hh_8.1.2.1 q h9 hq⟩) hh_8.1.2.2 dX5_have_14
set_option maxHeartbeats 4000000 in
set_option maxRecDepth 20000 in
theorem uX5_cases (l : Launch) (dC : Nat → ClassId) (dI : Nat → Nat → Nat) (ca : Nat → ClassId) (base : Nat) (B : jF) (hB : jBok B) (hAp : jAp (dC, dI)) (hB5 : ∀ n G a H, B 5 n G a H ↔ jOb (dC, dI) 5 4 (F5 n G) a H) (hB7 : ∀ n G a H, B 7 n G a H ↔ jOb (dC, dI) 7 11 (F7 n G) a H) (hB12 : ∀ n G a H, B 12 n G a H ↔ jOb (dC, dI) 12 11 (F12b n G) a H) (hB101 : ∀ n G a H, B 101 n G a H ↔ jAr (dC, dI) (ca 1) (fun j z => True) n a H) (hB211 : ∀ n G a H, B 211 n G a H ↔ jAq (dC, dI) (ca 7) (jQh) n G a H) (hB280 : ∀ n G a H, B 280 n G a H ↔ jAr (dC, dI) (ca 1) (fun j z => -1 ≤ z.toInt) n a H) (hB290 : ∀ n G a H, B 290 n G a H ↔ jAr (dC, dI) (ca 1) (fun j z => 0 ≤ z.toInt ∧ z.toInt ≤ 3000) n a H) (hB291 : ∀ n G a H, B 291 n G a H ↔ jAr (dC, dI) (ca 1) (fun j z => 0 ≤ z.toInt ∧ z.toInt ≤ 3000) n a H) (hB292 : ∀ n G a H, B 292 n G a H ↔ jAr (dC, dI) (ca 1) (fun j z => 0 ≤ z.toInt ∧ z.toInt ≤ 8191) n a H) (hB313 : ∀ n G a H, B 313 n G a H ↔ jAq (dC, dI) (ca 8) (jQk 280 80) n G a H) (hB315 : ∀ n G a H, B 315 n G a H ↔ jAqZ (dC, dI) (ca 8) n a H) (G0 : jT) (H0 : Heap) (r0 : Nat) (r1 : Nat) (n1 : Nat) (pf : Int32) (LC LS : Nat) : Met l yX5_cases (jw yX5_cases cX5_cases 11 (some .int)) ({ frames := 4, cells := LC - H0.size, slots := LS - jTot H0, locals := 129 }) (va_Pc [.ref r0, .ref r1] (fun U => U.heap = H0 ∧ jX B base G0 [] H0 ∧ jG dC dI ca base U ∧ jK2 dC dI ca U ∧ jK5 dC dI ca U ∧ G0 r0 = some (7, 0) ∧ G0 r1 = some (5, n1) ∧ jP (dC, dI) G0 H0 [(r0, 7, 10, .int pf)] ∧ jIs (dC, dI) G0 H0 [(jFg, jFr dC dI ca G0 r0)] ∧ H0.size + 16 ≤ LC ∧ jTot H0 + 500 ≤ LS ∧ 0 ≤ pf.toInt ∧ pf.toInt ≤ 100 ∧ n1 % 10 = 1)) (va_Qi (S := Int32 × jT) (fun r u => (pf.toInt ≤ u.1.toInt ∧ u.1.toInt ≤ pf.toInt + 2)) (fun u t => jRa (dC, dI) B base G0 u.2 EX5_cases H0 (16) (500) [(r0, 7, 10, .int u.1)] t.heap ∧ (jNk [0, 1, 2, 3, 4, 6, 7, 8, 9, 10, 11, 12, 13, 14, 15, 16, 17, 175]) G0 u.2 ∧ jIs (dC, dI) u.2 t.heap [(jFg, jFr dC dI ca u.2 r0)]) (jA base)) (LC - H0.size) (LS - jTot H0) (jA base) := by
  refine Met.ofW (cc := cX5_cases) (maxL := 11) (ret := (some .int)) (by decide) rfl ?_
  intro p e s m args below meth c s₁ Bd hml hv
  obtain ⟨rfl, hH0, hX, hG, hK2, hK5, hg_r0, hg_r1, hP0, hI0, hLC0, hLS0, hp0, hp1, hp2⟩ := hv
  have hK := hG.1
  have hx := Bd.exec
  have hb := Bd.bytes
  have hr := Bd.returns
  have hts := atoms_spec (ws := (jw yX5_cases cX5_cases 11 (some .int))) Bd.pre
  have htw : ∀ w ∈ jWl, w.before _ s = true := fun w h => hts w (List.mem_cons_of_mem _ h)
  have hown : s.vm.findClass RX5 = some m.cls := findClass_of_methodNamed Bd.named
  have hlocks := Bd.notSynchronized
  obtain ⟨Q, hQ⟩ : ∃ Q, Q = MQ below (va_Qi (S := Int32 × jT) (fun r u => (pf.toInt ≤ u.1.toInt ∧ u.1.toInt ≤ pf.toInt + 2)) (fun u t => jRa (dC, dI) B base G0 u.2 EX5_cases H0 (16) (500) [(r0, 7, 10, .int u.1)] t.heap ∧ (jNk [0, 1, 2, 3, 4, 6, 7, 8, 9, 10, 11, 12, 13, 14, 15, 16, 17, 175]) G0 u.2 ∧ jIs (dC, dI) u.2 t.heap [(jFg, jFr dC dI ca u.2 r0)]) (jA base)) ([.ref r0, .ref r1] : List Value).toArray s (LC - H0.size) (LS - jTot H0) (jA base) := ⟨_, rfl⟩
  rw [← hQ]
  have hl := lv_entry ([.ref r0, .ref r1]) (n := 11) (Nat.le_of_ble_eq_true rfl)
  rw [lg_entry_eq]
  generalize (lg_sl ([.ref r0, .ref r1]) ++ List.replicate (11 - (lg_sl ([.ref r0, .ref r1])).length) Slot.unset).toArray = ls at hl ⊢
  have hl : lv_has ls 11 [(0, .ref r0), (1, .ref r1)] := hl
  generalize hR : (headSpec (jw yX5_cases cX5_cases 11 (some .int)) ({ frames := 4, cells := LC - H0.size, slots := LS - jTot H0, locals := 129 })).room = R
  subst hH0
  have hh : jSt (dC, dI) B base G0 G0 EX5_cases s.heap 0 0 [(r0, 7, 10, .int pf)] [] [(jFg, jFr dC dI ca G0 r0)] s.heap [] := jSt.start hX hP0 jMc.nil hI0
  clear hX hP0
  have hk0 : (0 : Int32).toInt = 0 := by decide
  have hk1 : (1 : Int32).toInt = 1 := by decide
  have hk2 : (2 : Int32).toInt = 2 := by decide
  have hk3 : (3 : Int32).toInt = 3 := by decide
  have hk5 : (5 : Int32).toInt = 5 := by decide
  have hk6 : (6 : Int32).toInt = 6 := by decide
  have hk8 : (8 : Int32).toInt = 8 := by decide
  have hk15 : (15 : Int32).toInt = 15 := by decide
  have hly_5_1 := htw (u_lay RX3 TX3 1) (jWc_wsX30 _ (u_in_lay (by decide)))
  have hly_5_2 := htw (u_lay RX3 TX3 2) (jWc_wsX30 _ (u_in_lay (by decide)))
  have hly_5_3 := htw (u_lay RX3 TX3 3) (jWc_wsX30 _ (u_in_lay (by decide)))
  have hly_7_1 := htw (u_lay RX5 TX5 1) (jWc_wsX50 _ (u_in_lay (by decide)))
  have hly_12_6 := htw (u_lay RX10 TX10 6) (jWc_wsX100 _ (u_in_lay (by decide)))
  have hlk_164 := (htw (.fieldLink RX5 164 "ProofServer$Goal" "names" "[I") (jWr_81 _ (List.mem_of_getElem? (i := 16) rfl)))
  have hlk_23 := (htw (.fieldLink RX5 23 "ProofServer$Kernel" "syntax" "LProofServer$Syntax;") (jWr_4 _ (List.mem_of_getElem? (i := 15) rfl)))
  have hlk_93 := (htw (.fieldLink RX5 93 "ProofServer$Syntax" "told" "[I") (jWr_81 _ (List.mem_of_getElem? (i := 8) rfl)))
  have hlk_180 := (htw (.fieldLink RX5 180 "ProofServer$Goal" "hypotheses" "[[I") (jWr_84 _ (List.mem_of_getElem? (i := 10) rfl)))
  have hlk_190 := (htw (.fieldLink RX5 190 "ProofServer$Goal" "formula" "[I") (jWr_84 _ (List.mem_of_getElem? (i := 15) rfl)))
  have hbs : base ≤ s.heap.size := Nat.le_of_lt (Nat.lt_of_le_of_lt (hh.ab hg_r0).1 (hh.ab hg_r0).2)
  have hRc : R.cells = LC - s.heap.size := by rw [← hR]; rfl
  have hRs : R.slots = LS - jTot s.heap := by rw [← hR]; rfl
  obtain ⟨v_1, hv_1, hh_2⟩ := hh.pin (C := RX3) (T := TX3) (N := 4) hB5 rfl (by decide) hg_r1 (i := 2) (by decide) rfl
  obtain ⟨hypotheses_3, khypotheses_3, rfl, hg_hypotheses_3, hhahypotheses_3, hhbhypotheses_3, hhchypotheses_3, hhdhypotheses_3, hhehypotheses_3⟩ := hv_1
  obtain rfl : khypotheses_3 = 313 := hhbhypotheses_3 (by omega)
  refine lv_aload_n hx hb dX5_cases_0 rfl (lv_at hl 1 rfl) ?_
  obtain ⟨v_4, hv_4, hh_5⟩ := hh_2.pin (C := RX3) (T := TX3) (N := 4) hB5 rfl (by decide) hg_r1 (i := 1) (by decide) rfl
  clear hh_2
  obtain ⟨names_6, rfl, hg_names_6⟩ := hv_4
  refine j7_read hx hb hown hK (C := RX3) (T := TX3) (N := 4) rfl hly_5_1 hlk_164 (hh_5.at 0 rfl) dX5_cases_1 ?_
  refine lv_aload_n hx hb dX5_cases_4 rfl (lv_at hl 0 rfl) ?_
  obtain ⟨v_7, hv_7, hh_8⟩ := hh_5.pin (C := RX5) (T := TX5) (N := 11) hB7 rfl (by decide) hg_r0 (i := 1) (by decide) rfl
  clear hh_5
  obtain ⟨syntax_9, rfl, hg_syntax_9⟩ := hv_7
  refine j7_read hx hb hown hK (C := RX5) (T := TX5) (N := 11) rfl hly_7_1 hlk_23 (hh_8.at 0 rfl) dX5_cases_5 ?_
  obtain ⟨v_10, hv_10, hh_11⟩ := hh_8.pin (C := RX10) (T := TX10) (N := 11) hB12 rfl (by decide) hg_syntax_9 (i := 6) (by decide) rfl
  clear hh_8
  obtain ⟨told_12, rfl, hg_told_12⟩ := hv_10
  refine j7_read hx hb hown hK (C := RX10) (T := TX10) (N := 11) rfl hly_12_6 hlk_93 (hh_11.at 0 rfl) dX5_cases_8 ?_
  refine lv_iconst (v := 0) hx hb dX5_cases_11 (by decide) ?_
  refine j7_iald hx hb hK hh_11 hB292 1 rfl (by decide) hg_told_12 (x := 0) ((by decide)) (by omega) dX5_cases_12 (fun z_13 (hz_13 : 0 ≤ z_13.toInt ∧ z_13.toInt ≤ 8191) => ?_)
  have hsz_14 := hh_11.2.2.2.2.2.1
  have htt_14 := hh_11.2.2.2.2.2.2.1
  refine W.room (fun hrc_14 hrs_14 => ?_)
  refine va_calli (A0 := jA base) (H0 := s.heap) (va_runS (As := [.ref names_6, .int z_13]) (rest := []) ⟨hx, hb, hml, hown, hts⟩ (uX9_find l dC dI ca base B hB hAp hB101 G0 s.heap names_6 z_13 (n1 / 10)) (va_cwS 2 hts (jgS (jWr_81 _ (List.mem_of_getElem? (i := 18) rfl)) (jWr_30 _ (List.mem_of_getElem? (i := 20) rfl)) (jWr_4 _ (List.mem_of_getElem? (i := 18) rfl)) (jWr_30 _ (List.mem_of_getElem? (i := 21) rfl))) rfl rfl rfl (by decide +kernel) ⟨by rw [← hR]; exact Nat.le_of_ble_eq_true rfl, by rw [← hR]; exact Nat.le_of_ble_eq_true rfl⟩) ⟨fun a U g mk q => by obtain ⟨q0, q1, q2, qK, q10, q11, q12⟩ := q; exact ⟨q0, q1, q2, jG.calling g mk a qK, q10, q11, q12⟩, fun U hU hW => ⟨rfl, hU, hh_11.2.1, hG.step hW hU hh_11.1, hg_names_6, jP.nil, by first | omega | rfl | assumption | decide | exact Or.inl rfl | exact Or.inr rfl | (simp only; omega)⟩⟩ rfl rfl hl.1 rfl (lv_room (Nat.le_of_ble_eq_true rfl)) dX5_cases_13 ⟨by rw [hRc]; show _ + 0 ≤ _; omega, by rw [hRs]; show _ + 0 ≤ _; omega⟩) hh_11.1 (fun q _ h => h) (fun q h => h) (fun r_15 u_14 t_14 H_14 locs_14 ht_14 hvm_14 hr_15 hb_14 hz_14 hk_14 hS_14 => ?_)
  rw [ht_14] at hb_14
  obtain ⟨hb_141, hb_142, hb_143, hb_144, hb_145⟩ := hb_14
  have hh_14 : jSt (dC, dI) B base G0 G0 EX5_cases s.heap 0 0 [(syntax_9, 12, 6, .ref told_12), (r0, 7, 1, .ref syntax_9), (r1, 5, 1, .ref names_6), (r1, 5, 2, .ref hypotheses_3), (r0, 7, 10, .int pf)] [] [(jFg, jFr dC dI ca G0 r0)] H_14 locs_14 := ((hh_11.call hb_141 hb_142 hb_143 hb_144 hS_14 rfl (L1 := [(syntax_9, 12, 6, .ref told_12), (r0, 7, 1, .ref syntax_9), (r1, 5, 1, .ref names_6), (r1, 5, 2, .ref hypotheses_3), (r0, 7, 10, .int pf)]) [0, 1, 2, 3, 4] rfl rfl (M1 := []) [] rfl rfl (I1 := [(jFg, jFr dC dI ca G0 r0)]) [0] rfl rfl).more hb_145)
  clear hh_11 ht_14 hvm_14 hz_14 hk_14 hS_14 hb_141 hb_142 hb_143 hb_144 hb_145
  obtain ⟨hr_15_0, hr_15_1⟩ := hr_15
  refine lv_istore_n (lv' := [(2, .int r_15), (0, .ref r0), (1, .ref r1)]) hx hb dX5_cases_16 rfl hl (by decide) rfl (fun ls hl => ?_)
  refine lv_iload_n hx hb dX5_cases_17 rfl (lv_at hl 0 rfl) ?_
  refine lv_if_ge (tgt := 23) hx hb dX5_cases_18 (by decide) (fun c_16 => ?_) (fun c_16 => ?_)
  · skip
    have c_16' : r_15.toInt ≥ 0 := jb_ge (rfl) ((by decide)) c_16
    refine lv_aload_n hx hb dX5_cases_23 rfl (lv_at hl 1 rfl) ?_
    refine j7_read hx hb hown hK (C := RX5) (T := TX5) (N := 11) rfl hly_7_1 hlk_23 (hh_14.at 1 rfl) dX5_cases_24 ?_
    refine j7_read hx hb hown hK (C := RX10) (T := TX10) (N := 11) rfl hly_12_6 hlk_93 (hh_14.at 0 rfl) dX5_cases_27 ?_
    refine lv_iconst (v := 1) hx hb dX5_cases_30 (by decide) ?_
    refine j7_iald hx hb hK hh_14 hB292 1 rfl (by decide) hg_told_12 (x := 1) ((by decide)) (by omega) dX5_cases_31 (fun z_17 (hz_17 : 0 ≤ z_17.toInt ∧ z_17.toInt ≤ 8191) => ?_)
    refine lv_istore_n (lv' := [(3, .int z_17), (2, .int r_15), (0, .ref r0), (1, .ref r1)]) hx hb dX5_cases_32 rfl hl (by decide) rfl (fun ls hl => ?_)
    refine lv_aload_n hx hb dX5_cases_33 rfl (lv_at hl 2 rfl) ?_
    refine j7_read hx hb hown hK (C := RX5) (T := TX5) (N := 11) rfl hly_7_1 hlk_23 (hh_14.at 1 rfl) dX5_cases_34 ?_
    refine j7_read hx hb hown hK (C := RX10) (T := TX10) (N := 11) rfl hly_12_6 hlk_93 (hh_14.at 0 rfl) dX5_cases_37 ?_
    refine lv_iconst (v := 2) hx hb dX5_cases_40 (by decide) ?_
    refine j7_iald hx hb hK hh_14 hB292 1 rfl (by decide) hg_told_12 (x := 2) ((by decide)) (by omega) dX5_cases_41 (fun z_18 (hz_18 : 0 ≤ z_18.toInt ∧ z_18.toInt ≤ 8191) => ?_)
    refine lv_istore (lv' := [(4, .int z_18), (3, .int z_17), (2, .int r_15), (0, .ref r0), (1, .ref r1)]) hx hb dX5_cases_42 hl (by decide) rfl (fun ls hl => ?_)
    refine lv_aload_n hx hb dX5_cases_44 rfl (lv_at hl 4 rfl) ?_
    refine j7_read hx hb hown hK (C := RX3) (T := TX3) (N := 4) rfl hly_5_2 hlk_180 (hh_14.at 3 rfl) dX5_cases_45 ?_
    refine lv_iload_n hx hb dX5_cases_48 rfl (lv_at hl 2 rfl) ?_
    refine j7_qaldA hx hb hK5 hh_14 hB313 (by decide) hg_hypotheses_3 (x := r_15.toInt) (rfl) (by omega) dX5_cases_49 (fun o_19 ho_19 => ?_)
    obtain ⟨el_20, nel_20, rfl, hg_el_20, hn_el_20⟩ := ho_19
    simp only [va_rf]
    refine lv_astore (lv' := [(5, .ref el_20), (4, .int z_18), (3, .int z_17), (2, .int r_15), (0, .ref r0), (1, .ref r1)]) hx hb dX5_cases_50 hl (by decide) rfl (fun ls hl => ?_)
    refine lv_aload hx hb dX5_cases_52 (lv_at hl 0 rfl) ?_
    refine j7_len hx hb hK hh_14 hB280 1 rfl (by decide) hg_el_20 (by omega) dX5_cases_54 (fun z_21 hz_21 => ?_)
    have C69 : ∀ (w0_22 : Int32) (H_22 : Heap) (locs_22 : List Loc), jSt (dC, dI) B base G0 G0 EX5_cases s.heap 0 0 [(syntax_9, 12, 6, .ref told_12), (r0, 7, 1, .ref syntax_9), (r1, 5, 1, .ref names_6), (r1, 5, 2, .ref hypotheses_3), (r0, 7, 10, .int pf)] [] [(jFg, jFr dC dI ca G0 r0)] H_22 locs_22 → (0 ≤ w0_22.toInt) → ∀ ls : Array Slot, lv_has ls 11 [(0, .ref r0), (1, .ref r1), (2, .int r_15), (3, .int z_17), (4, .int z_18), (5, .ref el_20)] → W p l e R s m ([.ref r0, .ref r1] : List Value).toArray below meth c H_22 locs_22 0 0 Q (F0 m 69 ls [.int w0_22]) := by
      intro w0_22 H_22 locs_22 hh_22  hi_22 ls hl
      refine lv_istore (lv' := [(6, .int w0_22), (0, .ref r0), (1, .ref r1), (2, .int r_15), (3, .int z_17), (4, .int z_18), (5, .ref el_20)]) hx hb dX5_cases_69 hl (by decide) rfl (fun ls hl => ?_)
      refine lv_aload hx hb dX5_cases_71 (lv_at hl 6 rfl) ?_
      refine lv_iconst (v := 1) hx hb dX5_cases_73 (by decide) ?_
      refine lv_aload hx hb dX5_cases_74 (lv_at hl 6 rfl) ?_
      refine j7_len hx hb hK hh_22 hB280 1 rfl (by decide) hg_el_20 (by omega) dX5_cases_76 (fun z_23 hz_23 => ?_)
      have hsz_24 := hh_22.2.2.2.2.2.1
      have htt_24 := hh_22.2.2.2.2.2.2.1
      refine W.room (fun hrc_24 hrs_24 => ?_)
      refine va_calli (A0 := jA base) (H0 := s.heap) (va_runSN (As := [.ref el_20, .int 1, .int z_23]) (rest := []) ⟨hx, hb, hml, hown, hts⟩ (uX11_endOfB l dC dI ca base B hB hAp hB280 G0 H_22 el_20 1 z_23 nel_20) ⟨va_cnB 3 hts (jgW (jWr_32 _ (List.mem_of_getElem? (i := 4) rfl))) rfl rfl rfl (hG.2.2.1 RX5 183 yX11_endOf "ProofServer" (List.mem_of_getElem? (i := 1460) (by decide +kernel))) (htw (.initialized RX11) (jWr_1 _ (List.mem_of_getElem? (i := 2) rfl))) (by decide +kernel) ⟨by rw [← hR]; exact Nat.le_of_ble_eq_true rfl, by rw [← hR]; exact Nat.le_of_ble_eq_true rfl⟩, htw (.static yX11_endOf) (jWr_32 _ (List.mem_of_getElem? (i := 3) rfl)), trivial⟩ ⟨fun a U g mk q => by obtain ⟨q0, q1, q2, qK, q10, q11, q12⟩ := q; exact ⟨q0, q1, q2, jG.calling g mk a qK, q10, q11, q12⟩, fun U hU hW => ⟨rfl, hU, hh_22.2.1, hG.step hW hU hh_22.1, hg_el_20, jP.nil, by first | omega | (refine ⟨?_, ?_, ?_⟩ <;> (first | omega | rfl | assumption | decide | exact Or.inl rfl | exact Or.inr rfl | (simp only; omega)))⟩⟩ rfl rfl hl.1 rfl (lv_room (Nat.le_of_ble_eq_true rfl)) dX5_cases_77 ⟨by rw [hRc]; show _ + 0 ≤ _; omega, by rw [hRs]; show _ + 0 ≤ _; omega⟩) hh_22.1 (fun q _ h => h) (fun q h => h) (fun r_25 u_24 t_24 H_24 locs_24 ht_24 hvm_24 hr_25 hb_24 hz_24 hk_24 hS_24 => ?_)
      rw [ht_24] at hb_24
      obtain ⟨hb_241, hb_242, hb_243, hb_244, hb_245⟩ := hb_24
      have hh_24 : jSt (dC, dI) B base G0 G0 EX5_cases s.heap 0 0 [(syntax_9, 12, 6, .ref told_12), (r0, 7, 1, .ref syntax_9), (r1, 5, 1, .ref names_6), (r1, 5, 2, .ref hypotheses_3), (r0, 7, 10, .int pf)] [] [(jFg, jFr dC dI ca G0 r0)] H_24 locs_24 := ((hh_22.call hb_241 hb_242 hb_243 hb_244 hS_24 rfl (L1 := [(syntax_9, 12, 6, .ref told_12), (r0, 7, 1, .ref syntax_9), (r1, 5, 1, .ref names_6), (r1, 5, 2, .ref hypotheses_3), (r0, 7, 10, .int pf)]) [0, 1, 2, 3, 4] rfl rfl (M1 := []) [] rfl rfl (I1 := [(jFg, jFr dC dI ca G0 r0)]) [0] rfl rfl).more hb_245)
      clear hh_22 ht_24 hvm_24 hz_24 hk_24 hS_24 hb_241 hb_242 hb_243 hb_244 hb_245
      obtain ⟨hr_25_0, hr_25_1⟩ := hr_25
      refine lv_istore (lv' := [(7, .int r_25), (6, .int w0_22), (0, .ref r0), (1, .ref r1), (2, .int r_15), (3, .int z_17), (4, .int z_18), (5, .ref el_20)]) hx hb dX5_cases_80 hl (by decide) rfl (fun ls hl => ?_)
      refine lv_aload hx hb dX5_cases_82 (lv_at hl 7 rfl) ?_
      refine lv_iconst (v := 1) hx hb dX5_cases_84 (by decide) ?_
      refine lv_iload hx hb dX5_cases_85 (lv_at hl 0 rfl) ?_
      have hsz_26 := hh_24.2.2.2.2.2.1
      have htt_26 := hh_24.2.2.2.2.2.2.1
      refine W.room (fun hrc_26 hrs_26 => ?_)
      refine j_callx (A0 := jA base) (H0 := s.heap) (va_runS (As := [.ref el_20, .int 1, .int r_25]) (rest := []) ⟨hx, hb, hml, hown, hts⟩ (uX5_part l dC dI ca base B hB hAp hB280 G0 H_24 el_20 1 r_25 nel_20 LC LS) (va_cwS 3 hts (jgS (jWr_84 _ (List.mem_of_getElem? (i := 20) rfl)) (jWr_84 _ (List.mem_of_getElem? (i := 21) rfl)) (jWr_2 _ (List.mem_of_getElem? (i := 4) rfl)) (jWr_84 _ (List.mem_of_getElem? (i := 22) rfl))) rfl rfl rfl (by decide +kernel) ⟨by rw [← hR]; exact Nat.le_of_ble_eq_true rfl, by rw [← hR]; exact Nat.le_of_ble_eq_true rfl⟩) ⟨fun a U g mk q => by obtain ⟨q0, q1, q2, qK, q10, q11, q12⟩ := q; exact ⟨q0, q1, q2, jG.calling g mk a qK, q10, q11, q12⟩, fun U hU hW => ⟨rfl, hU, hh_24.2.1, hG.step hW hU hh_24.1, hg_el_20, jP.nil, by first | omega | (refine ⟨?_, ?_⟩ <;> (first | omega | rfl | assumption | decide | exact Or.inl rfl | exact Or.inr rfl | (simp only; omega)))⟩⟩ rfl rfl hl.1 rfl (lv_room (Nat.le_of_ble_eq_true rfl)) dX5_cases_87 ⟨by rw [hRc]; omega, by rw [hRs]; omega⟩) hh_24.1 (fun q _ h => h) (fun q h => h) (fun r_27 u_26 t_26 H_26 locs_26 ht_26 hvm_26 hr_27 hb_26 hz_26 hk_26 hS_26 => ?_)
      rw [ht_26] at hb_26
      obtain ⟨m_ret_26, G_26⟩ := u_26
      simp only at hb_26
      obtain ⟨⟨hb_261, hb_262, hb_263, hb_264, hb_265, hb_266⟩, hN_26, hbK_26⟩ := hb_26
      have hN_26 : (jNk [0, 1, 2, 3, 4, 6, 7, 8, 9, 10, 11, 12, 13, 14, 15, 16, 17, 175]) G0 G_26 := hN_26.sub (by decide)
      have hh_26 : jSt (dC, dI) B base G0 G_26 EX5_cases s.heap (0 + (1)) (0 + (m_ret_26)) [(syntax_9, 12, 6, .ref told_12), (r0, 7, 1, .ref syntax_9), (r1, 5, 1, .ref names_6), (r1, 5, 2, .ref hypotheses_3), (r0, 7, 10, .int pf)] [] [(jFg, jFr dC dI ca G0 r0)] H_26 locs_26 := (hh_24.callG hb_261 hb_262 hb_263 hb_264 hb_265 hS_26 rfl (L1 := [(syntax_9, 12, 6, .ref told_12), (r0, 7, 1, .ref syntax_9), (r1, 5, 1, .ref names_6), (r1, 5, 2, .ref hypotheses_3), (r0, 7, 10, .int pf)]) [0, 1, 2, 3, 4] rfl rfl (M1 := []) [] rfl rfl (I1 := [(jFg, jFr dC dI ca G0 r0)]) [0] rfl rfl).more hb_266
      have hNn_26 : (jNk [0, 1, 2, 3, 4, 6, 7, 8, 9, 10, 11, 12, 13, 14, 15, 16, 17, 175]) G0 G_26 := (jNk.rf).tr hN_26
      have hg_28 := hb_262 _ _ hg_r0
      have hg_29 := hb_262 _ _ hg_r1
      have hg_30 := hb_262 _ _ hg_el_20
      have hg_31 := hb_262 _ _ hg_told_12
      have hg_32 := hb_262 _ _ hg_syntax_9
      have hg_33 := hb_262 _ _ hg_names_6
      have hg_34 := hb_262 _ _ hg_hypotheses_3
      have hd_35 := jFr.grow (hh_26.iv 0 rfl) hb_262
      have hh_36 := hh_26.sub (L1 := [(syntax_9, 12, 6, .ref told_12), (r0, 7, 1, .ref syntax_9), (r1, 5, 1, .ref names_6), (r1, 5, 2, .ref hypotheses_3), (r0, 7, 10, .int pf)]) [0, 1, 2, 3, 4] rfl (M1 := []) [] rfl (I1 := []) [] rfl
      clear hh_26
      have hh_37 := hh_36.addI (jFr.ie hd_35)
      clear hh_36
      obtain ⟨hr_27, hr_27n, hr_27p⟩ := hr_27
      try simp only at hr_27p
      obtain ⟨ret_38, rfl, hg_ret_38⟩ := hr_27
      have hsy_26 : s.heap.size ≤ ret_38 := Nat.le_trans hh_24.1.1 hr_27n.le
      refine lv_astore (lv' := [(8, .ref ret_38), (7, .int r_25), (6, .int w0_22), (0, .ref r0), (1, .ref r1), (2, .int r_15), (3, .int z_17), (4, .int z_18), (5, .ref el_20)]) hx hb dX5_cases_90 hl (by decide) rfl (fun ls hl => ?_)
      refine lv_aload hx hb dX5_cases_92 (lv_at hl 8 rfl) ?_
      refine lv_iload hx hb dX5_cases_94 (lv_at hl 1 rfl) ?_
      refine lv_aload hx hb dX5_cases_96 (lv_at hl 8 rfl) ?_
      refine j7_len hx hb hK hh_37 hB280 1 rfl (by decide) hg_30 (by omega) dX5_cases_98 (fun z_39 hz_39 => ?_)
      have hsz_40 := hh_37.2.2.2.2.2.1
      have htt_40 := hh_37.2.2.2.2.2.2.1
      refine W.room (fun hrc_40 hrs_40 => ?_)
      refine j_callx (A0 := jA base) (H0 := s.heap) (va_runS (As := [.ref el_20, .int r_25, .int z_39]) (rest := []) ⟨hx, hb, hml, hown, hts⟩ (uX5_part l dC dI ca base B hB hAp hB280 G_26 H_26 el_20 r_25 z_39 nel_20 LC LS) (va_cwS 3 hts (jgS (jWr_84 _ (List.mem_of_getElem? (i := 20) rfl)) (jWr_84 _ (List.mem_of_getElem? (i := 21) rfl)) (jWr_2 _ (List.mem_of_getElem? (i := 4) rfl)) (jWr_84 _ (List.mem_of_getElem? (i := 22) rfl))) rfl rfl rfl (by decide +kernel) ⟨by rw [← hR]; exact Nat.le_of_ble_eq_true rfl, by rw [← hR]; exact Nat.le_of_ble_eq_true rfl⟩) ⟨fun a U g mk q => by obtain ⟨q0, q1, q2, qK, q10, q11, q12⟩ := q; exact ⟨q0, q1, q2, jG.calling g mk a qK, q10, q11, q12⟩, fun U hU hW => ⟨rfl, hU, hh_37.2.1, hG.step hW hU hh_37.1, hg_30, jP.nil, by first | omega | (refine ⟨?_, ?_⟩ <;> (first | omega | rfl | assumption | decide | exact Or.inl rfl | exact Or.inr rfl | (simp only; omega)))⟩⟩ rfl rfl hl.1 rfl (lv_room (Nat.le_of_ble_eq_true rfl)) dX5_cases_99 ⟨by rw [hRc]; omega, by rw [hRs]; omega⟩) hh_37.1 (fun q _ h => h) (fun q h => h) (fun r_41 u_40 t_40 H_40 locs_40 ht_40 hvm_40 hr_41 hb_40 hz_40 hk_40 hS_40 => ?_)
      rw [ht_40] at hb_40
      obtain ⟨m_ret_40, G_40⟩ := u_40
      simp only at hb_40
      obtain ⟨⟨hb_401, hb_402, hb_403, hb_404, hb_405, hb_406⟩, hN_40, hbK_40⟩ := hb_40
      have hN_40 : (jNk [0, 1, 2, 3, 4, 6, 7, 8, 9, 10, 11, 12, 13, 14, 15, 16, 17, 175]) G_26 G_40 := hN_40.sub (by decide)
      have hh_40 : jSt (dC, dI) B base G0 G_40 EX5_cases s.heap ((0 + (1)) + (1)) ((0 + (m_ret_26)) + (m_ret_40)) [(syntax_9, 12, 6, .ref told_12), (r0, 7, 1, .ref syntax_9), (r1, 5, 1, .ref names_6), (r1, 5, 2, .ref hypotheses_3), (r0, 7, 10, .int pf)] [] [(jFg, jFr dC dI ca G_26 r0)] H_40 locs_40 := (hh_37.callG hb_401 hb_402 hb_403 hb_404 hb_405 hS_40 rfl (L1 := [(syntax_9, 12, 6, .ref told_12), (r0, 7, 1, .ref syntax_9), (r1, 5, 1, .ref names_6), (r1, 5, 2, .ref hypotheses_3), (r0, 7, 10, .int pf)]) [0, 1, 2, 3, 4] rfl rfl (M1 := []) [] rfl rfl (I1 := [(jFg, jFr dC dI ca G_26 r0)]) [0] rfl rfl).more hb_406
      have hNn_40 : (jNk [0, 1, 2, 3, 4, 6, 7, 8, 9, 10, 11, 12, 13, 14, 15, 16, 17, 175]) G0 G_40 := (hNn_26).tr hN_40
      have hg_42 := hb_402 _ _ hg_ret_38
      have hg_43 := hb_402 _ _ hg_28
      have hg_44 := hb_402 _ _ hg_29
      have hg_45 := hb_402 _ _ hg_30
      have hg_46 := hb_402 _ _ hg_31
      have hg_47 := hb_402 _ _ hg_32
      have hg_48 := hb_402 _ _ hg_33
      have hg_49 := hb_402 _ _ hg_34
      have hd_50 := jFr.grow (hh_40.iv 0 rfl) hb_402
      have hh_51 := hh_40.sub (L1 := [(syntax_9, 12, 6, .ref told_12), (r0, 7, 1, .ref syntax_9), (r1, 5, 1, .ref names_6), (r1, 5, 2, .ref hypotheses_3), (r0, 7, 10, .int pf)]) [0, 1, 2, 3, 4] rfl (M1 := []) [] rfl (I1 := []) [] rfl
      clear hh_40
      have hh_52 := hh_51.addI (jFr.ie hd_50)
      clear hh_51
      obtain ⟨hr_41, hr_41n, hr_41p⟩ := hr_41
      try simp only at hr_41p
      obtain ⟨ret_53, rfl, hg_ret_53⟩ := hr_41
      have hsy_40 : s.heap.size ≤ ret_53 := Nat.le_trans hh_37.1.1 hr_41n.le
      refine lv_astore (lv' := [(9, .ref ret_53), (8, .ref ret_38), (7, .int r_25), (6, .int w0_22), (0, .ref r0), (1, .ref r1), (2, .int r_15), (3, .int z_17), (4, .int z_18), (5, .ref el_20)]) hx hb dX5_cases_102 hl (by decide) rfl (fun ls hl => ?_)
      refine lv_aload_n hx hb dX5_cases_104 rfl (lv_at hl 5 rfl) ?_
      refine lv_iload_n hx hb dX5_cases_105 rfl (lv_at hl 6 rfl) ?_
      have hsz_54 := hh_52.2.2.2.2.2.1
      have htt_54 := hh_52.2.2.2.2.2.2.1
      refine W.room (fun hrc_54 hrs_54 => ?_)
      refine j_callx (A0 := jA base) (H0 := s.heap) (va_runV (As := [.int r_15]) (rest := []) ⟨hx, hb, hml, hown, hts⟩ (uX3_without l dC dI ca base B hB hAp hB5 hB101 hB280 hB313 G_40 H_40 r1 r_15 n1 LC LS) (cwV 1 hts (jgV (jWr_87 _ (List.mem_of_getElem? (i := 22) rfl)) (jWr_87 _ (List.mem_of_getElem? (i := 23) rfl)) (jWr_88 _ (List.mem_of_getElem? (i := 0) rfl)) (jWr_82 _ (List.mem_of_getElem? (i := 10) rfl)) (jWr_88 _ (List.mem_of_getElem? (i := 1) rfl))) rfl rfl rfl (by decide +kernel) ⟨by rw [← hR]; exact Nat.le_of_ble_eq_true rfl, by rw [← hR]; exact Nat.le_of_ble_eq_true rfl⟩) ⟨fun a U g mk q => by obtain ⟨q0, q1, q2, qK, q10, q11, q12, q13⟩ := q; exact ⟨q0, q1, q2, jG.calling g mk a qK, (jK5.moved (Vm.Alike.refl U.vm) q10), q11, q12, q13⟩, hh_52.recv (C := RX3) (T := TX3) (N := 4) hB5 rfl (by decide) hg_44 hK, fun U hU hW => ⟨rfl, hU, hh_52.2.1, hG.step hW hU hh_52.1, jK5.moved hW.alike hK5, hg_44, jP.nil, by first | omega | (refine ⟨?_, ?_, ?_, ?_⟩ <;> (first | omega | rfl | assumption | decide | exact Or.inl rfl | exact Or.inr rfl | (simp only; omega)))⟩⟩ rfl rfl hl.1 rfl (lv_room (Nat.le_of_ble_eq_true rfl)) dX5_cases_106 ⟨by rw [hRc]; omega, by rw [hRs]; omega⟩) hh_52.1 (fun q _ h => h) (fun q h => h) (fun r_55 u_54 t_54 H_54 locs_54 ht_54 hvm_54 hr_55 hb_54 hz_54 hk_54 hS_54 => ?_)
      rw [ht_54] at hb_54
      obtain ⟨m_ret_54, G_54⟩ := u_54
      simp only at hb_54
      obtain ⟨⟨hb_541, hb_542, hb_543, hb_544, hb_545, hb_546⟩, hN_54⟩ := hb_54
      have hh_54 : jSt (dC, dI) B base G0 G_54 EX5_cases s.heap (((0 + (1)) + (1)) + (3)) (((0 + (m_ret_26)) + (m_ret_40)) + (24)) [(syntax_9, 12, 6, .ref told_12), (r0, 7, 1, .ref syntax_9), (r1, 5, 1, .ref names_6), (r1, 5, 2, .ref hypotheses_3), (r0, 7, 10, .int pf)] [] [(jFg, jFr dC dI ca G_40 r0)] H_54 locs_54 := (hh_52.callG hb_541 hb_542 hb_543 hb_544 hb_545 hS_54 rfl (L1 := [(syntax_9, 12, 6, .ref told_12), (r0, 7, 1, .ref syntax_9), (r1, 5, 1, .ref names_6), (r1, 5, 2, .ref hypotheses_3), (r0, 7, 10, .int pf)]) [0, 1, 2, 3, 4] rfl rfl (M1 := []) [] rfl rfl (I1 := [(jFg, jFr dC dI ca G_40 r0)]) [0] rfl rfl).more hb_546
      have hNn_54 : (jNk [0, 1, 2, 3, 4, 6, 7, 8, 9, 10, 11, 12, 13, 14, 15, 16, 17, 175]) G0 G_54 := (hNn_40).tr hN_54
      have hg_56 := hb_542 _ _ hg_ret_53
      have hg_57 := hb_542 _ _ hg_42
      have hg_58 := hb_542 _ _ hg_43
      have hg_59 := hb_542 _ _ hg_44
      have hg_60 := hb_542 _ _ hg_45
      have hg_61 := hb_542 _ _ hg_46
      have hg_62 := hb_542 _ _ hg_47
      have hg_63 := hb_542 _ _ hg_48
      have hg_64 := hb_542 _ _ hg_49
      have hd_65 := jFr.grow (hh_54.iv 0 rfl) hb_542
      have hh_66 := hh_54.sub (L1 := [(syntax_9, 12, 6, .ref told_12), (r0, 7, 1, .ref syntax_9), (r1, 5, 1, .ref names_6), (r1, 5, 2, .ref hypotheses_3), (r0, 7, 10, .int pf)]) [0, 1, 2, 3, 4] rfl (M1 := []) [] rfl (I1 := []) [] rfl
      clear hh_54
      have hh_67 := hh_66.addI (jFr.ie hd_65)
      clear hh_66
      obtain ⟨hr_55, hr_55n, hr_55p⟩ := hr_55
      try simp only at hr_55p
      obtain ⟨ret_68, rfl, hg_ret_68⟩ := hr_55
      have hsy_54 : s.heap.size ≤ ret_68 := Nat.le_trans hh_52.1.1 hr_55n.le
      refine lv_astore (lv' := [(10, .ref ret_68), (9, .ref ret_53), (8, .ref ret_38), (7, .int r_25), (6, .int w0_22), (0, .ref r0), (1, .ref r1), (2, .int r_15), (3, .int z_17), (4, .int z_18), (5, .ref el_20)]) hx hb dX5_cases_109 hl (by decide) rfl (fun ls hl => ?_)
      refine lv_iload hx hb dX5_cases_111 (lv_at hl 4 rfl) ?_
      refine lv_iconst (v := 2) hx hb dX5_cases_113 (by decide) ?_
      refine lv_icmp_ne (tgt := 145) hx hb dX5_cases_114 (by decide) (fun c_69 => ?_) (fun c_69 => ?_)
      · skip
        have c_69' : w0_22.toInt ≠ 2 := jb_ne (rfl) ((by decide)) c_69
        refine lv_iload hx hb dX5_cases_145 (lv_at hl 4 rfl) ?_
        refine lv_iconst (v := 3) hx hb dX5_cases_147 (by decide) ?_
        refine lv_icmp_ne (tgt := 186) hx hb dX5_cases_148 (by decide) (fun c_70 => ?_) (fun c_70 => ?_)
        · skip
          have c_70' : w0_22.toInt ≠ 3 := jb_ne (rfl) ((by decide)) c_70
          refine lv_iload hx hb dX5_cases_186 (lv_at hl 4 rfl) ?_
          refine lv_bipush (v := 6) hx hb dX5_cases_188 (by decide) ?_
          refine lv_icmp_eq (tgt := 196) hx hb dX5_cases_190 (by decide) (fun c_71 => ?_) (fun c_71 => ?_)
          · skip
            have c_71' : w0_22.toInt = 6 := jb_eq (rfl) ((by decide)) c_71
            refine lv_aload_n hx hb dX5_cases_196 rfl (lv_at hl 5 rfl) ?_
            refine lv_aload hx hb dX5_cases_197 (lv_at hl 0 rfl) ?_
            refine lv_iload_n hx hb dX5_cases_199 rfl (lv_at hl 8 rfl) ?_
            refine lv_aload_n hx hb dX5_cases_200 rfl (lv_at hl 6 rfl) ?_
            obtain ⟨v_72, hv_72, hh_73⟩ := hh_67.pin (C := RX3) (T := TX3) (N := 4) hB5 rfl (by decide) hg_59 (i := 3) (by decide) rfl
            clear hh_67
            rcases hv_72 with ⟨rfl, hcv_72⟩ | ⟨formula_74, nformula_74, rfl, hg_formula_74, hn_formula_74, hcv_72, hdv_72⟩
            · exact absurd hcv_72 (by omega)
            refine j7_read hx hb hown hK (C := RX3) (T := TX3) (N := 4) rfl hly_5_3 hlk_190 (hh_73.at 0 rfl) dX5_cases_201 ?_
            have hsz_75 := hh_73.2.2.2.2.2.1
            have htt_75 := hh_73.2.2.2.2.2.2.1
            refine W.room (fun hrc_75 hrs_75 => ?_)
            refine j_callx (A0 := jA base) (H0 := s.heap) (va_runV (As := [.int z_17, .ref formula_74]) (rest := [.ref r0]) ⟨hx, hb, hml, hown, hts⟩ (uX3_withVariable l dC dI ca base B hB hAp hB5 hB101 hB280 hB313 G_54 H_54 ret_68 z_17 formula_74 m_ret_54 nformula_74 LC LS) (cwV 2 hts (jgV (jWr_86 _ (List.mem_of_getElem? (i := 2) rfl)) (jWr_86 _ (List.mem_of_getElem? (i := 3) rfl)) (jWr_86 _ (List.mem_of_getElem? (i := 4) rfl)) (jWr_82 _ (List.mem_of_getElem? (i := 10) rfl)) (jWr_86 _ (List.mem_of_getElem? (i := 5) rfl))) rfl rfl rfl (by decide +kernel) ⟨by rw [← hR]; exact Nat.le_of_ble_eq_true rfl, by rw [← hR]; exact Nat.le_of_ble_eq_true rfl⟩) ⟨fun a U g mk q => by obtain ⟨q0, q1, q2, qK, q10, q11, q12, q13⟩ := q; exact ⟨q0, q1, q2, jG.calling g mk a qK, q10, q11, q12, q13⟩, hh_73.recv (C := RX3) (T := TX3) (N := 4) hB5 rfl (by decide) hg_ret_68 hK, fun U hU hW => ⟨rfl, hU, hh_73.2.1, hG.step hW hU hh_73.1, hg_ret_68, hg_formula_74, jP.nil, by first | omega | (refine ⟨?_, ?_⟩ <;> (first | omega | rfl | assumption | decide | exact Or.inl rfl | exact Or.inr rfl | (simp only; omega)))⟩⟩ rfl rfl hl.1 rfl (lv_room (Nat.le_of_ble_eq_true rfl)) dX5_cases_204 ⟨by rw [hRc]; omega, by rw [hRs]; omega⟩) hh_73.1 (fun q _ h => h) (fun q h => h) (fun r_76 u_75 t_75 H_75 locs_75 ht_75 hvm_75 hr_76 hb_75 hz_75 hk_75 hS_75 => ?_)
            rw [ht_75] at hb_75
            obtain ⟨m_ret_75, G_75⟩ := u_75
            simp only at hb_75
            obtain ⟨⟨hb_751, hb_752, hb_753, hb_754, hb_755, hb_756⟩, hN_75⟩ := hb_75
            have hh_75 : jSt (dC, dI) B base G0 G_75 EX5_cases s.heap ((((0 + (1)) + (1)) + (3)) + (2)) ((((0 + (m_ret_26)) + (m_ret_40)) + (24)) + (11)) [(r1, 5, 3, .ref formula_74), (syntax_9, 12, 6, .ref told_12), (r0, 7, 1, .ref syntax_9), (r1, 5, 1, .ref names_6), (r1, 5, 2, .ref hypotheses_3), (r0, 7, 10, .int pf)] [] [(jFg, jFr dC dI ca G_54 r0)] H_75 locs_75 := (hh_73.callG hb_751 hb_752 hb_753 hb_754 hb_755 hS_75 rfl (L1 := [(r1, 5, 3, .ref formula_74), (syntax_9, 12, 6, .ref told_12), (r0, 7, 1, .ref syntax_9), (r1, 5, 1, .ref names_6), (r1, 5, 2, .ref hypotheses_3), (r0, 7, 10, .int pf)]) [0, 1, 2, 3, 4, 5] rfl rfl (M1 := []) [] rfl rfl (I1 := [(jFg, jFr dC dI ca G_54 r0)]) [0] rfl rfl).more hb_756
            have hNn_75 : (jNk [0, 1, 2, 3, 4, 6, 7, 8, 9, 10, 11, 12, 13, 14, 15, 16, 17, 175]) G0 G_75 := (hNn_54).tr hN_75
            have hg_77 := hb_752 _ _ hg_ret_68
            have hg_78 := hb_752 _ _ hg_56
            have hg_79 := hb_752 _ _ hg_57
            have hg_80 := hb_752 _ _ hg_58
            have hg_81 := hb_752 _ _ hg_59
            have hg_82 := hb_752 _ _ hg_60
            have hg_83 := hb_752 _ _ hg_formula_74
            have hg_84 := hb_752 _ _ hg_61
            have hg_85 := hb_752 _ _ hg_62
            have hg_86 := hb_752 _ _ hg_63
            have hg_87 := hb_752 _ _ hg_64
            have hd_88 := jFr.grow (hh_75.iv 0 rfl) hb_752
            have hh_89 := hh_75.sub (L1 := [(r1, 5, 3, .ref formula_74), (syntax_9, 12, 6, .ref told_12), (r0, 7, 1, .ref syntax_9), (r1, 5, 1, .ref names_6), (r1, 5, 2, .ref hypotheses_3), (r0, 7, 10, .int pf)]) [0, 1, 2, 3, 4, 5] rfl (M1 := []) [] rfl (I1 := []) [] rfl
            clear hh_75
            have hh_90 := hh_89.addI (jFr.ie hd_88)
            clear hh_89
            obtain ⟨hr_76, hr_76n, hr_76p⟩ := hr_76
            try simp only at hr_76p
            obtain ⟨hr_76p_0, hr_76p_1⟩ := hr_76p
            obtain ⟨ret_91, rfl, hg_ret_91⟩ := hr_76
            have hsy_75 : s.heap.size ≤ ret_91 := Nat.le_trans hh_73.1.1 hr_76n.le
            refine lv_iload hx hb dX5_cases_207 (lv_at hl 9 rfl) ?_
            refine lv_aload_n hx hb dX5_cases_209 rfl (lv_at hl 5 rfl) ?_
            refine lv_aload hx hb dX5_cases_210 (lv_at hl 10 rfl) ?_
            refine lv_aload_n hx hb dX5_cases_212 rfl (lv_at hl 5 rfl) ?_
            refine lv_iload_n hx hb dX5_cases_213 rfl (lv_at hl 8 rfl) ?_
            have hsz_92 := hh_90.2.2.2.2.2.1
            have htt_92 := hh_90.2.2.2.2.2.2.1
            refine W.room (fun hrc_92 hrs_92 => ?_)
            refine j_callx (A0 := jA base) (H0 := s.heap) (va_runV (As := [.int z_17]) (rest := [.ref el_20, .ref r0, .int z_18, .ref ret_91, .ref r0]) ⟨hx, hb, hml, hown, hts⟩ (uX5_variable l dC dI ca base B hB hAp hB7 hB280 G_75 H_75 r0 z_17) (cwV 1 hts (jgV (jWr_85 _ (List.mem_of_getElem? (i := 12) rfl)) (jWr_85 _ (List.mem_of_getElem? (i := 13) rfl)) (jWr_85 _ (List.mem_of_getElem? (i := 14) rfl)) (jWr_2 _ (List.mem_of_getElem? (i := 4) rfl)) (jWr_85 _ (List.mem_of_getElem? (i := 15) rfl))) rfl rfl rfl (by decide +kernel) ⟨by rw [← hR]; exact Nat.le_of_ble_eq_true rfl, by rw [← hR]; exact Nat.le_of_ble_eq_true rfl⟩) ⟨fun a U g mk q => by obtain ⟨q0, q1, q2, qK, q10, q11, q12⟩ := q; exact ⟨q0, q1, q2, jG.calling g mk a qK, q10, q11, q12⟩, hh_90.recv (C := RX5) (T := TX5) (N := 11) hB7 rfl (by decide) hg_80 hK, fun U hU hW => ⟨rfl, hU, hh_90.2.1, hG.step hW hU hh_90.1, hg_80, jP.nil, by first | omega | (refine ⟨?_, ?_⟩ <;> (first | omega | rfl | assumption | decide | exact Or.inl rfl | exact Or.inr rfl | (simp only; omega)))⟩⟩ rfl rfl hl.1 rfl (lv_room (Nat.le_of_ble_eq_true rfl)) dX5_cases_214 ⟨by rw [hRc]; show _ + 0 ≤ _; omega, by rw [hRs]; show _ + 0 ≤ _; omega⟩) hh_90.1 (fun q _ h => h) (fun q h => h) (fun r_93 u_92 t_92 H_92 locs_92 ht_92 hvm_92 hr_93 hb_92 hz_92 hk_92 hS_92 => ?_)
            rw [ht_92] at hb_92
            obtain ⟨hb_921, hb_922, hb_923, hb_924, hb_925⟩ := hb_92
            have hh_92 : jSt (dC, dI) B base G0 G_75 EX5_cases s.heap ((((0 + (1)) + (1)) + (3)) + (2)) ((((0 + (m_ret_26)) + (m_ret_40)) + (24)) + (11)) [(r1, 5, 3, .ref formula_74), (syntax_9, 12, 6, .ref told_12), (r0, 7, 1, .ref syntax_9), (r1, 5, 1, .ref names_6), (r1, 5, 2, .ref hypotheses_3), (r0, 7, 10, .int pf)] [] [(jFg, jFr dC dI ca G_75 r0)] H_92 locs_92 := ((hh_90.call hb_921 hb_922 hb_923 hb_924 hS_92 rfl (L1 := [(r1, 5, 3, .ref formula_74), (syntax_9, 12, 6, .ref told_12), (r0, 7, 1, .ref syntax_9), (r1, 5, 1, .ref names_6), (r1, 5, 2, .ref hypotheses_3), (r0, 7, 10, .int pf)]) [0, 1, 2, 3, 4, 5] rfl rfl (M1 := []) [] rfl rfl (I1 := [(jFg, jFr dC dI ca G_75 r0)]) [0] rfl rfl).more hb_925)
            clear hh_90 ht_92 hvm_92 hz_92 hk_92 hS_92 hb_921 hb_922 hb_923 hb_924 hb_925
            obtain ⟨ret_94, rfl, hg_ret_94⟩ := hr_93
            refine lv_iconst (v := 1) hx hb dX5_cases_217 (by decide) ?_
            obtain ⟨v_97, hv_97, hh_98⟩ := hh_92.pin (C := RX5) (T := TX5) (N := 11) hB7 rfl (by decide) hg_80 (i := 6) (by decide) rfl
            obtain ⟨termFrom_99, rfl, hg_termFrom_99⟩ := hv_97
            obtain ⟨v_100, hv_100, hh_101⟩ := hh_98.pin (C := RX5) (T := TX5) (N := 11) hB7 rfl (by decide) hg_80 (i := 7) (by decide) rfl
            obtain ⟨termSize_102, rfl, hg_termSize_102⟩ := hv_100
            obtain ⟨f_fx_103, hh_103⟩ := hh_101.cpin hB290 (by decide) (by decide) hg_termFrom_99
            clear hh_101
            obtain ⟨f_ft_104, hh_104⟩ := hh_103.cpin hB291 (by decide) (by decide) hg_termSize_102
            clear hh_103
            have hsz_95 := hh_104.2.2.2.2.2.1
            have htt_95 := hh_104.2.2.2.2.2.2.1
            refine W.room (fun hrc_95 hrs_95 => ?_)
            refine j_callx (A0 := jA base) (H0 := s.heap) (va_runV (As := [.ref el_20, .ref ret_94, .int 1]) (rest := [.int z_18, .ref ret_91, .ref r0]) ⟨hx, hb, hml, hown, hts⟩ (uX5_opened l dC dI ca base B hB hAp hB7 hB280 hB290 hB291 G_75 H_92 r0 el_20 ret_94 1 nel_20 1 termFrom_99 termSize_102 f_fx_103 f_ft_104 LC LS) (cwV 3 hts (jgV (jWr_85 _ (List.mem_of_getElem? (i := 16) rfl)) (jWr_85 _ (List.mem_of_getElem? (i := 17) rfl)) (jWr_85 _ (List.mem_of_getElem? (i := 18) rfl)) (jWr_2 _ (List.mem_of_getElem? (i := 4) rfl)) (jWr_85 _ (List.mem_of_getElem? (i := 19) rfl))) rfl rfl rfl (by decide +kernel) ⟨by rw [← hR]; exact Nat.le_of_ble_eq_true rfl, by rw [← hR]; exact Nat.le_of_ble_eq_true rfl⟩) ⟨fun a U g mk q => by obtain ⟨q0, q1, q2, qK, q10, q11, q12, q13, q14, q15, q16, q17⟩ := q; exact ⟨q0, q1, q2, jG.calling g mk a qK, q10, q11, q12, q13, q14, q15, q16, q17⟩, hh_104.recv (C := RX5) (T := TX5) (N := 11) hB7 rfl (by decide) hg_80 hK, fun U hU hW => ⟨rfl, hU, hh_104.2.1, hG.step hW hU hh_104.1, hg_82, hg_ret_94, hg_80, hg_termFrom_99, hg_termSize_102, (hh_104.2.2.1.sub (L1 := [(r0, 7, 6, .ref termFrom_99), (r0, 7, 7, .ref termSize_102)]) [1, 0] rfl), (hh_104.2.2.2.2.2.2.2.1.sub (L1 := [(termFrom_99, 290, 13, ca 1, f_fx_103), (termSize_102, 291, 13, ca 1, f_ft_104)]) [1, 0] rfl), by first | omega | (refine ⟨?_, ?_, ?_⟩ <;> (first | omega | rfl | assumption | decide | exact Or.inl rfl | exact Or.inr rfl | (simp only; omega)))⟩⟩ rfl rfl hl.1 rfl (lv_room (Nat.le_of_ble_eq_true rfl)) dX5_cases_218 ⟨by rw [hRc]; omega, by rw [hRs]; omega⟩) hh_104.1 (fun q _ h => h) (fun q h => h) (fun r_96 u_95 t_95 H_95 locs_95 ht_95 hvm_95 hr_96 hb_95 hz_95 hk_95 hS_95 => ?_)
            rw [ht_95] at hb_95
            obtain ⟨m_ret_95, G_95⟩ := u_95
            simp only at hb_95
            obtain ⟨⟨hb_951, hb_952, hb_953, hb_954, hb_955, hb_956⟩, hN_95⟩ := hb_95
            have hN_95 : (jNk [0, 1, 2, 3, 4, 6, 7, 8, 9, 10, 11, 12, 13, 14, 15, 16, 17, 175]) G_75 G_95 := hN_95.sub (by decide)
            have hh_95 : jSt (dC, dI) B base G0 G_95 EX5_cases s.heap (((((0 + (1)) + (1)) + (3)) + (2)) + (1)) (((((0 + (m_ret_26)) + (m_ret_40)) + (24)) + (11)) + (80)) [(r0, 7, 7, .ref termSize_102), (r0, 7, 6, .ref termFrom_99), (r1, 5, 3, .ref formula_74), (syntax_9, 12, 6, .ref told_12), (r0, 7, 1, .ref syntax_9), (r1, 5, 1, .ref names_6), (r1, 5, 2, .ref hypotheses_3), (r0, 7, 10, .int pf)] [] [(jFg, jFr dC dI ca G_75 r0)] H_95 locs_95 := (hh_104.callG hb_951 hb_952 hb_953 hb_954 hb_955 hS_95 rfl (L1 := [(r0, 7, 7, .ref termSize_102), (r0, 7, 6, .ref termFrom_99), (r1, 5, 3, .ref formula_74), (syntax_9, 12, 6, .ref told_12), (r0, 7, 1, .ref syntax_9), (r1, 5, 1, .ref names_6), (r1, 5, 2, .ref hypotheses_3), (r0, 7, 10, .int pf)]) [0, 1, 2, 3, 4, 5, 6, 7] rfl rfl (M1 := []) [] rfl rfl (I1 := [(jFg, jFr dC dI ca G_75 r0)]) [0] rfl rfl).more hb_956
            have hNn_95 : (jNk [0, 1, 2, 3, 4, 6, 7, 8, 9, 10, 11, 12, 13, 14, 15, 16, 17, 175]) G0 G_95 := (hNn_75).tr hN_95
            have hg_105 := hb_952 _ _ hg_77
            have hg_106 := hb_952 _ _ hg_78
            have hg_107 := hb_952 _ _ hg_79
            have hg_108 := hb_952 _ _ hg_80
            have hg_109 := hb_952 _ _ hg_81
            have hg_110 := hb_952 _ _ hg_82
            have hg_111 := hb_952 _ _ hg_ret_91
            have hg_112 := hb_952 _ _ hg_termSize_102
            have hg_113 := hb_952 _ _ hg_termFrom_99
            have hg_114 := hb_952 _ _ hg_83
            have hg_115 := hb_952 _ _ hg_84
            have hg_116 := hb_952 _ _ hg_85
            have hg_117 := hb_952 _ _ hg_86
            have hg_118 := hb_952 _ _ hg_87
            have hd_119 := jFr.grow (hh_95.iv 0 rfl) hb_952
            have hh_120 := hh_95.sub (L1 := [(r0, 7, 7, .ref termSize_102), (r0, 7, 6, .ref termFrom_99), (r1, 5, 3, .ref formula_74), (syntax_9, 12, 6, .ref told_12), (r0, 7, 1, .ref syntax_9), (r1, 5, 1, .ref names_6), (r1, 5, 2, .ref hypotheses_3), (r0, 7, 10, .int pf)]) [0, 1, 2, 3, 4, 5, 6, 7] rfl (M1 := []) [] rfl (I1 := []) [] rfl
            clear hh_95
            have hh_121 := hh_120.addI (jFr.ie hd_119)
            clear hh_120
            obtain ⟨hr_96, hr_96p⟩ := hr_96
            try simp only at hr_96p
            rcases hr_96 with rfl | ⟨hr_96, hr_96n⟩
            · skip
              refine lv_aload_n hx hb dX5_cases_221 rfl (lv_at hl 6 rfl) ?_
              refine j7_read hx hb hown hK (C := RX3) (T := TX3) (N := 4) rfl hly_5_3 hlk_190 (hh_121.at 2 rfl) dX5_cases_222 ?_
              have hsz_122 := hh_121.2.2.2.2.2.1
              have htt_122 := hh_121.2.2.2.2.2.2.1
              refine W.room (fun hrc_122 hrs_122 => ?_)
              refine j_callx (A0 := jA base) (H0 := s.heap) (va_runV (As := [.int z_18, .null, .ref formula_74]) (rest := [.ref r0]) ⟨hx, hb, hml, hown, hts⟩ (uX3_withHypothesisZ l dC dI ca base B hB hAp hB5 hB101 hB280 hB313 hB315 G_95 H_95 ret_91 z_18 formula_74 m_ret_75 nformula_74 LC LS) (cwV 3 hts (jgV (jWr_85 _ (List.mem_of_getElem? (i := 0) rfl)) (jWr_85 _ (List.mem_of_getElem? (i := 1) rfl)) (jWr_85 _ (List.mem_of_getElem? (i := 2) rfl)) (jWr_82 _ (List.mem_of_getElem? (i := 10) rfl)) (jWr_85 _ (List.mem_of_getElem? (i := 3) rfl))) rfl rfl rfl (by decide +kernel) ⟨by rw [← hR]; exact Nat.le_of_ble_eq_true rfl, by rw [← hR]; exact Nat.le_of_ble_eq_true rfl⟩) ⟨fun a U g mk q => by obtain ⟨q0, q1, q2, qK, q10, q11, q12, q13, q14⟩ := q; exact ⟨q0, q1, q2, jG.calling g mk a qK, (jK5.moved (Vm.Alike.refl U.vm) q10), q11, q12, q13, q14⟩, hh_121.recv (C := RX3) (T := TX3) (N := 4) hB5 rfl (by decide) hg_111 hK, fun U hU hW => ⟨rfl, hU, hh_121.2.1, hG.step hW hU hh_121.1, jK5.moved hW.alike hK5, hg_111, hg_114, jP.nil, by first | omega | (refine ⟨?_, ?_, ?_⟩ <;> (first | omega | rfl | assumption | decide | exact Or.inl rfl | exact Or.inr rfl | (simp only; omega)))⟩⟩ rfl rfl hl.1 rfl (lv_room (Nat.le_of_ble_eq_true rfl)) dX5_cases_225 ⟨by rw [hRc]; omega, by rw [hRs]; omega⟩) hh_121.1 (fun q _ h => h) (fun q h => h) (fun r_123 u_122 t_122 H_122 locs_122 ht_122 hvm_122 hr_123 hb_122 hz_122 hk_122 hS_122 => ?_)
              rw [ht_122] at hb_122
              obtain ⟨m_ret_122, G_122⟩ := u_122
              simp only at hb_122
              obtain ⟨⟨hb_1221, hb_1222, hb_1223, hb_1224, hb_1225, hb_1226⟩, hN_122⟩ := hb_122
              have hh_122 : jSt (dC, dI) B base G0 G_122 EX5_cases s.heap ((((((0 + (1)) + (1)) + (3)) + (2)) + (1)) + (3)) ((((((0 + (m_ret_26)) + (m_ret_40)) + (24)) + (11)) + (80)) + (24)) [(r0, 7, 7, .ref termSize_102), (r0, 7, 6, .ref termFrom_99), (r1, 5, 3, .ref formula_74), (syntax_9, 12, 6, .ref told_12), (r0, 7, 1, .ref syntax_9), (r1, 5, 1, .ref names_6), (r1, 5, 2, .ref hypotheses_3), (r0, 7, 10, .int pf)] [] [(jFg, jFr dC dI ca G_95 r0)] H_122 locs_122 := (hh_121.callG hb_1221 hb_1222 hb_1223 hb_1224 hb_1225 hS_122 rfl (L1 := [(r0, 7, 7, .ref termSize_102), (r0, 7, 6, .ref termFrom_99), (r1, 5, 3, .ref formula_74), (syntax_9, 12, 6, .ref told_12), (r0, 7, 1, .ref syntax_9), (r1, 5, 1, .ref names_6), (r1, 5, 2, .ref hypotheses_3), (r0, 7, 10, .int pf)]) [0, 1, 2, 3, 4, 5, 6, 7] rfl rfl (M1 := []) [] rfl rfl (I1 := [(jFg, jFr dC dI ca G_95 r0)]) [0] rfl rfl).more hb_1226
              have hNn_122 : (jNk [0, 1, 2, 3, 4, 6, 7, 8, 9, 10, 11, 12, 13, 14, 15, 16, 17, 175]) G0 G_122 := (hNn_95).tr hN_122
              have hg_124 := hb_1222 _ _ hg_105
              have hg_125 := hb_1222 _ _ hg_106
              have hg_126 := hb_1222 _ _ hg_107
              have hg_127 := hb_1222 _ _ hg_108
              have hg_128 := hb_1222 _ _ hg_109
              have hg_129 := hb_1222 _ _ hg_110
              have hg_130 := hb_1222 _ _ hg_112
              have hg_131 := hb_1222 _ _ hg_113
              have hg_132 := hb_1222 _ _ hg_114
              have hg_133 := hb_1222 _ _ hg_115
              have hg_134 := hb_1222 _ _ hg_116
              have hg_135 := hb_1222 _ _ hg_117
              have hg_136 := hb_1222 _ _ hg_118
              have hd_137 := jFr.grow (hh_122.iv 0 rfl) hb_1222
              have hh_138 := hh_122.sub (L1 := [(r0, 7, 7, .ref termSize_102), (r0, 7, 6, .ref termFrom_99), (r1, 5, 3, .ref formula_74), (syntax_9, 12, 6, .ref told_12), (r0, 7, 1, .ref syntax_9), (r1, 5, 1, .ref names_6), (r1, 5, 2, .ref hypotheses_3), (r0, 7, 10, .int pf)]) [0, 1, 2, 3, 4, 5, 6, 7] rfl (M1 := []) [] rfl (I1 := []) [] rfl
              clear hh_122
              have hh_139 := hh_138.addI (jFr.ie hd_137)
              clear hh_138
              obtain ⟨hr_123, hr_123n, hr_123p⟩ := hr_123
              try simp only at hr_123p
              obtain ⟨ret_140, rfl, hg_ret_140⟩ := hr_123
              have hsy_122 : s.heap.size ≤ ret_140 := Nat.le_trans hh_121.1.1 hr_123n.le
              have hsz_141 := hh_139.2.2.2.2.2.1
              have htt_141 := hh_139.2.2.2.2.2.2.1
              refine W.room (fun hrc_141 hrs_141 => ?_)
              refine va_calli (A0 := jA base) (H0 := s.heap) (va_runV (As := [.ref ret_140]) (rest := []) ⟨hx, hb, hml, hown, hts⟩ (uX5_add l dC dI ca base B hB hAp hB5 hB7 hB211 G_122 H_122 r0 ret_140 m_ret_122 pf) (cwV 1 hts (jgV (jWr_85 _ (List.mem_of_getElem? (i := 8) rfl)) (jWr_85 _ (List.mem_of_getElem? (i := 9) rfl)) (jWr_85 _ (List.mem_of_getElem? (i := 10) rfl)) (jWr_2 _ (List.mem_of_getElem? (i := 4) rfl)) (jWr_85 _ (List.mem_of_getElem? (i := 11) rfl))) rfl rfl rfl (by decide +kernel) ⟨by rw [← hR]; exact Nat.le_of_ble_eq_true rfl, by rw [← hR]; exact Nat.le_of_ble_eq_true rfl⟩) ⟨fun a U g mk q => by obtain ⟨q0, q1, q2, qK, q10, q11, q12, q13, q14, q15⟩ := q; exact ⟨q0, q1, q2, jG.calling g mk a qK, (va_K.moved (Vm.Alike.refl U.vm) q10), q11, q12, q13, q14, q15⟩, hh_139.recv (C := RX5) (T := TX5) (N := 11) hB7 rfl (by decide) hg_127 hK, fun U hU hW => ⟨rfl, hU, hh_139.2.1, hG.step hW hU hh_139.1, va_K.moved hW.alike hK2, hg_127, hg_ret_140, (hh_139.2.2.1.sub (L1 := [(r0, 7, 10, .int pf)]) [7] rfl), (hh_139.2.2.2.2.2.2.2.2.sub (L1 := [(jFg, jFr dC dI ca G_122 r0)]) [0] rfl), by first | omega | (refine ⟨?_, ?_, ?_⟩ <;> (first | omega | rfl | assumption | decide | exact Or.inl rfl | exact Or.inr rfl | (simp only; omega)))⟩⟩ rfl rfl hl.1 rfl (lv_room (Nat.le_of_ble_eq_true rfl)) dX5_cases_228 ⟨by rw [hRc]; show _ + 0 ≤ _; omega, by rw [hRs]; show _ + 0 ≤ _; omega⟩) hh_139.1 (fun q _ h => h) (fun q h => h) (fun r_142 u_141 t_141 H_141 locs_141 ht_141 hvm_141 hr_142 hb_141 hz_141 hk_141 hS_141 => ?_)
              obtain ⟨qf_141, rfl⟩ : ∃ z, z = u_141 := ⟨_, rfl⟩
              rw [ht_141] at hb_141
              obtain ⟨hb_141, hbE_141⟩ := hb_141
              obtain ⟨hb_1411, hb_1412, hb_1413, hb_1414, hb_1415⟩ := hb_141
              have hh_141 : jSt (dC, dI) B base G0 G_122 EX5_cases s.heap ((((((0 + (1)) + (1)) + (3)) + (2)) + (1)) + (3)) ((((((0 + (m_ret_26)) + (m_ret_40)) + (24)) + (11)) + (80)) + (24)) [(r0, 7, 10, .int qf_141), (r0, 7, 7, .ref termSize_102), (r0, 7, 6, .ref termFrom_99), (r1, 5, 3, .ref formula_74), (syntax_9, 12, 6, .ref told_12), (r0, 7, 1, .ref syntax_9), (r1, 5, 1, .ref names_6), (r1, 5, 2, .ref hypotheses_3)] [] [(jFg, jFr dC dI ca G_122 r0)] H_141 locs_141 := (((hh_139.call hb_1411 hb_1412 hb_1413 hb_1414 hS_141 rfl (L1 := [(r0, 7, 7, .ref termSize_102), (r0, 7, 6, .ref termFrom_99), (r1, 5, 3, .ref formula_74), (syntax_9, 12, 6, .ref told_12), (r0, 7, 1, .ref syntax_9), (r1, 5, 1, .ref names_6), (r1, 5, 2, .ref hypotheses_3)]) [0, 1, 2, 3, 4, 5, 6] rfl rfl (M1 := []) [] rfl rfl (I1 := []) [] rfl rfl).more hb_1415)).addIs hbE_141
              clear hh_139 ht_141 hvm_141 hz_141 hk_141 hS_141 hb_1411 hb_1412 hb_1413 hb_1414 hb_1415
              clear  hbE_141
              obtain ⟨hr_142_0, hr_142_1⟩ := hr_142
              have hsz_143 := hh_141.2.2.2.2.2.1
              have htt_143 := hh_141.2.2.2.2.2.2.1
              refine W.room (fun hrc_143 hrs_143 => ?_)
              refine W.widen (k := LC - s.heap.size) (n := LS - jTot s.heap) (by omega) (by omega) ?_
              rw [hQ]
              exact W.iret (v := r_142) hx hb hr (fun t ht hW => ⟨⟨r_142, (qf_141, G_122), rfl, by (try dsimp only); exact ⟨(by first | omega | rfl | assumption | fail), (by first | omega | rfl | assumption | fail)⟩, ⟨hh_141.ra (by first | omega | (simp only; omega)) (by first | omega | (simp only; omega)) (M1 := [(r0, 7, 10, .int qf_141)]) [0] rfl ht, hNn_122, by rw [ht]; exact hh_141.2.2.2.2.2.2.2.2.sub (L1 := [(jFg, jFr dC dI ca G_122 r0)]) [0] rfl⟩⟩, by rw [ht]; try exact hh_141.1.1, fun q h9 hq => by rw [ht]; try exact hh_141.1.2.1 q h9 hq⟩) hh_141.1.2.2 dX5_cases_231
            · skip
              obtain ⟨ret_144, rfl, hg_ret_144⟩ := hr_96
              have hsy_95 : s.heap.size ≤ ret_144 := Nat.le_trans hh_104.1.1 hr_96n.le
              refine lv_aload_n hx hb dX5_cases_221 rfl (lv_at hl 6 rfl) ?_
              refine j7_read hx hb hown hK (C := RX3) (T := TX3) (N := 4) rfl hly_5_3 hlk_190 (hh_121.at 2 rfl) dX5_cases_222 ?_
              have hsz_145 := hh_121.2.2.2.2.2.1
              have htt_145 := hh_121.2.2.2.2.2.2.1
              refine W.room (fun hrc_145 hrs_145 => ?_)
              refine j_callx (A0 := jA base) (H0 := s.heap) (va_runV (As := [.int z_18, .ref ret_144, .ref formula_74]) (rest := [.ref r0]) ⟨hx, hb, hml, hown, hts⟩ (uX3_withHypothesis l dC dI ca base B hB hAp hB5 hB101 hB280 hB313 G_95 H_95 ret_91 z_18 ret_144 formula_74 m_ret_75 m_ret_95 nformula_74 LC LS) (cwV 3 hts (jgV (jWr_85 _ (List.mem_of_getElem? (i := 0) rfl)) (jWr_85 _ (List.mem_of_getElem? (i := 1) rfl)) (jWr_85 _ (List.mem_of_getElem? (i := 2) rfl)) (jWr_82 _ (List.mem_of_getElem? (i := 10) rfl)) (jWr_85 _ (List.mem_of_getElem? (i := 3) rfl))) rfl rfl rfl (by decide +kernel) ⟨by rw [← hR]; exact Nat.le_of_ble_eq_true rfl, by rw [← hR]; exact Nat.le_of_ble_eq_true rfl⟩) ⟨fun a U g mk q => by obtain ⟨q0, q1, q2, qK, q10, q11, q12, q13, q14, q15⟩ := q; exact ⟨q0, q1, q2, jG.calling g mk a qK, (jK5.moved (Vm.Alike.refl U.vm) q10), q11, q12, q13, q14, q15⟩, hh_121.recv (C := RX3) (T := TX3) (N := 4) hB5 rfl (by decide) hg_111 hK, fun U hU hW => ⟨rfl, hU, hh_121.2.1, hG.step hW hU hh_121.1, jK5.moved hW.alike hK5, hg_111, hg_ret_144, hg_114, jP.nil, by first | omega | (refine ⟨?_, ?_, ?_, ?_⟩ <;> (first | omega | rfl | assumption | decide | exact Or.inl rfl | exact Or.inr rfl | (simp only; omega)))⟩⟩ rfl rfl hl.1 rfl (lv_room (Nat.le_of_ble_eq_true rfl)) dX5_cases_225 ⟨by rw [hRc]; omega, by rw [hRs]; omega⟩) hh_121.1 (fun q _ h => h) (fun q h => h) (fun r_146 u_145 t_145 H_145 locs_145 ht_145 hvm_145 hr_146 hb_145 hz_145 hk_145 hS_145 => ?_)
              rw [ht_145] at hb_145
              obtain ⟨m_ret_145, G_145⟩ := u_145
              simp only at hb_145
              obtain ⟨⟨hb_1451, hb_1452, hb_1453, hb_1454, hb_1455, hb_1456⟩, hN_145⟩ := hb_145
              have hh_145 : jSt (dC, dI) B base G0 G_145 EX5_cases s.heap ((((((0 + (1)) + (1)) + (3)) + (2)) + (1)) + (3)) ((((((0 + (m_ret_26)) + (m_ret_40)) + (24)) + (11)) + (80)) + (24)) [(r0, 7, 7, .ref termSize_102), (r0, 7, 6, .ref termFrom_99), (r1, 5, 3, .ref formula_74), (syntax_9, 12, 6, .ref told_12), (r0, 7, 1, .ref syntax_9), (r1, 5, 1, .ref names_6), (r1, 5, 2, .ref hypotheses_3), (r0, 7, 10, .int pf)] [] [(jFg, jFr dC dI ca G_95 r0)] H_145 locs_145 := (hh_121.callG hb_1451 hb_1452 hb_1453 hb_1454 hb_1455 hS_145 rfl (L1 := [(r0, 7, 7, .ref termSize_102), (r0, 7, 6, .ref termFrom_99), (r1, 5, 3, .ref formula_74), (syntax_9, 12, 6, .ref told_12), (r0, 7, 1, .ref syntax_9), (r1, 5, 1, .ref names_6), (r1, 5, 2, .ref hypotheses_3), (r0, 7, 10, .int pf)]) [0, 1, 2, 3, 4, 5, 6, 7] rfl rfl (M1 := []) [] rfl rfl (I1 := [(jFg, jFr dC dI ca G_95 r0)]) [0] rfl rfl).more hb_1456
              have hNn_145 : (jNk [0, 1, 2, 3, 4, 6, 7, 8, 9, 10, 11, 12, 13, 14, 15, 16, 17, 175]) G0 G_145 := (hNn_95).tr hN_145
              have hg_147 := hb_1452 _ _ hg_105
              have hg_148 := hb_1452 _ _ hg_106
              have hg_149 := hb_1452 _ _ hg_107
              have hg_150 := hb_1452 _ _ hg_108
              have hg_151 := hb_1452 _ _ hg_109
              have hg_152 := hb_1452 _ _ hg_110
              have hg_153 := hb_1452 _ _ hg_112
              have hg_154 := hb_1452 _ _ hg_113
              have hg_155 := hb_1452 _ _ hg_114
              have hg_156 := hb_1452 _ _ hg_115
              have hg_157 := hb_1452 _ _ hg_116
              have hg_158 := hb_1452 _ _ hg_117
              have hg_159 := hb_1452 _ _ hg_118
              have hd_160 := jFr.grow (hh_145.iv 0 rfl) hb_1452
              have hh_161 := hh_145.sub (L1 := [(r0, 7, 7, .ref termSize_102), (r0, 7, 6, .ref termFrom_99), (r1, 5, 3, .ref formula_74), (syntax_9, 12, 6, .ref told_12), (r0, 7, 1, .ref syntax_9), (r1, 5, 1, .ref names_6), (r1, 5, 2, .ref hypotheses_3), (r0, 7, 10, .int pf)]) [0, 1, 2, 3, 4, 5, 6, 7] rfl (M1 := []) [] rfl (I1 := []) [] rfl
              clear hh_145
              have hh_162 := hh_161.addI (jFr.ie hd_160)
              clear hh_161
              obtain ⟨hr_146, hr_146n, hr_146p⟩ := hr_146
              try simp only at hr_146p
              obtain ⟨hr_146p_0, hr_146p_1⟩ := hr_146p
              obtain ⟨ret_163, rfl, hg_ret_163⟩ := hr_146
              have hsy_145 : s.heap.size ≤ ret_163 := Nat.le_trans hh_121.1.1 hr_146n.le
              have hsz_164 := hh_162.2.2.2.2.2.1
              have htt_164 := hh_162.2.2.2.2.2.2.1
              refine W.room (fun hrc_164 hrs_164 => ?_)
              refine va_calli (A0 := jA base) (H0 := s.heap) (va_runV (As := [.ref ret_163]) (rest := []) ⟨hx, hb, hml, hown, hts⟩ (uX5_add l dC dI ca base B hB hAp hB5 hB7 hB211 G_145 H_145 r0 ret_163 m_ret_145 pf) (cwV 1 hts (jgV (jWr_85 _ (List.mem_of_getElem? (i := 8) rfl)) (jWr_85 _ (List.mem_of_getElem? (i := 9) rfl)) (jWr_85 _ (List.mem_of_getElem? (i := 10) rfl)) (jWr_2 _ (List.mem_of_getElem? (i := 4) rfl)) (jWr_85 _ (List.mem_of_getElem? (i := 11) rfl))) rfl rfl rfl (by decide +kernel) ⟨by rw [← hR]; exact Nat.le_of_ble_eq_true rfl, by rw [← hR]; exact Nat.le_of_ble_eq_true rfl⟩) ⟨fun a U g mk q => by obtain ⟨q0, q1, q2, qK, q10, q11, q12, q13, q14, q15⟩ := q; exact ⟨q0, q1, q2, jG.calling g mk a qK, (va_K.moved (Vm.Alike.refl U.vm) q10), q11, q12, q13, q14, q15⟩, hh_162.recv (C := RX5) (T := TX5) (N := 11) hB7 rfl (by decide) hg_150 hK, fun U hU hW => ⟨rfl, hU, hh_162.2.1, hG.step hW hU hh_162.1, va_K.moved hW.alike hK2, hg_150, hg_ret_163, (hh_162.2.2.1.sub (L1 := [(r0, 7, 10, .int pf)]) [7] rfl), (hh_162.2.2.2.2.2.2.2.2.sub (L1 := [(jFg, jFr dC dI ca G_145 r0)]) [0] rfl), by first | omega | (refine ⟨?_, ?_, ?_⟩ <;> (first | omega | rfl | assumption | decide | exact Or.inl rfl | exact Or.inr rfl | (simp only; omega)))⟩⟩ rfl rfl hl.1 rfl (lv_room (Nat.le_of_ble_eq_true rfl)) dX5_cases_228 ⟨by rw [hRc]; show _ + 0 ≤ _; omega, by rw [hRs]; show _ + 0 ≤ _; omega⟩) hh_162.1 (fun q _ h => h) (fun q h => h) (fun r_165 u_164 t_164 H_164 locs_164 ht_164 hvm_164 hr_165 hb_164 hz_164 hk_164 hS_164 => ?_)
              obtain ⟨qf_164, rfl⟩ : ∃ z, z = u_164 := ⟨_, rfl⟩
              rw [ht_164] at hb_164
              obtain ⟨hb_164, hbE_164⟩ := hb_164
              obtain ⟨hb_1641, hb_1642, hb_1643, hb_1644, hb_1645⟩ := hb_164
              have hh_164 : jSt (dC, dI) B base G0 G_145 EX5_cases s.heap ((((((0 + (1)) + (1)) + (3)) + (2)) + (1)) + (3)) ((((((0 + (m_ret_26)) + (m_ret_40)) + (24)) + (11)) + (80)) + (24)) [(r0, 7, 10, .int qf_164), (r0, 7, 7, .ref termSize_102), (r0, 7, 6, .ref termFrom_99), (r1, 5, 3, .ref formula_74), (syntax_9, 12, 6, .ref told_12), (r0, 7, 1, .ref syntax_9), (r1, 5, 1, .ref names_6), (r1, 5, 2, .ref hypotheses_3)] [] [(jFg, jFr dC dI ca G_145 r0)] H_164 locs_164 := (((hh_162.call hb_1641 hb_1642 hb_1643 hb_1644 hS_164 rfl (L1 := [(r0, 7, 7, .ref termSize_102), (r0, 7, 6, .ref termFrom_99), (r1, 5, 3, .ref formula_74), (syntax_9, 12, 6, .ref told_12), (r0, 7, 1, .ref syntax_9), (r1, 5, 1, .ref names_6), (r1, 5, 2, .ref hypotheses_3)]) [0, 1, 2, 3, 4, 5, 6] rfl rfl (M1 := []) [] rfl rfl (I1 := []) [] rfl rfl).more hb_1645)).addIs hbE_164
              clear hh_162 ht_164 hvm_164 hz_164 hk_164 hS_164 hb_1641 hb_1642 hb_1643 hb_1644 hb_1645
              clear  hbE_164
              obtain ⟨hr_165_0, hr_165_1⟩ := hr_165
              have hsz_166 := hh_164.2.2.2.2.2.1
              have htt_166 := hh_164.2.2.2.2.2.2.1
              refine W.room (fun hrc_166 hrs_166 => ?_)
              refine W.widen (k := LC - s.heap.size) (n := LS - jTot s.heap) (by omega) (by omega) ?_
              rw [hQ]
              exact W.iret (v := r_165) hx hb hr (fun t ht hW => ⟨⟨r_165, (qf_164, G_145), rfl, by (try dsimp only); exact ⟨(by first | omega | rfl | assumption | fail), (by first | omega | rfl | assumption | fail)⟩, ⟨hh_164.ra (by first | omega | (simp only; omega)) (by first | omega | (simp only; omega)) (M1 := [(r0, 7, 10, .int qf_164)]) [0] rfl ht, hNn_145, by rw [ht]; exact hh_164.2.2.2.2.2.2.2.2.sub (L1 := [(jFg, jFr dC dI ca G_145 r0)]) [0] rfl⟩⟩, by rw [ht]; try exact hh_164.1.1, fun q h9 hq => by rw [ht]; try exact hh_164.1.2.1 q h9 hq⟩) hh_164.1.2.2 dX5_cases_231
          · skip
            have c_71' : w0_22.toInt ≠ 6 := jb_eq_n (rfl) ((by decide)) c_71
            refine lv_bipush (v := 8) hx hb dX5_cases_193 (by decide) ?_
            have hsz_167 := hh_67.2.2.2.2.2.1
            have htt_167 := hh_67.2.2.2.2.2.2.1
            refine W.room (fun hrc_167 hrs_167 => ?_)
            refine W.widen (k := LC - s.heap.size) (n := LS - jTot s.heap) (by omega) (by omega) ?_
            rw [hQ]
            exact W.iret (v := 8) hx hb hr (fun t ht hW => ⟨⟨8, (pf, G_54), rfl, by (try dsimp only); exact ⟨(by first | omega | rfl | assumption | fail), (by first | omega | rfl | assumption | fail)⟩, ⟨hh_67.ra (by first | omega | (simp only; omega)) (by first | omega | (simp only; omega)) (M1 := [(r0, 7, 10, .int pf)]) [4] rfl ht, hNn_54, by rw [ht]; exact hh_67.2.2.2.2.2.2.2.2.sub (L1 := [(jFg, jFr dC dI ca G_54 r0)]) [0] rfl⟩⟩, by rw [ht]; try exact hh_67.1.1, fun q h9 hq => by rw [ht]; try exact hh_67.1.2.1 q h9 hq⟩) hh_67.1.2.2 dX5_cases_195
        · skip
          have c_70' : w0_22.toInt = 3 := jb_ne_n (rfl) ((by decide)) c_70
          refine lv_aload_n hx hb dX5_cases_151 rfl (lv_at hl 5 rfl) ?_
          refine lv_aload hx hb dX5_cases_152 (lv_at hl 0 rfl) ?_
          refine lv_iload_n hx hb dX5_cases_154 rfl (lv_at hl 8 rfl) ?_
          refine lv_aload hx hb dX5_cases_155 (lv_at hl 2 rfl) ?_
          refine lv_aload_n hx hb dX5_cases_157 rfl (lv_at hl 6 rfl) ?_
          obtain ⟨v_168, hv_168, hh_169⟩ := hh_67.pin (C := RX3) (T := TX3) (N := 4) hB5 rfl (by decide) hg_59 (i := 3) (by decide) rfl
          clear hh_67
          rcases hv_168 with ⟨rfl, hcv_168⟩ | ⟨formula_170, nformula_170, rfl, hg_formula_170, hn_formula_170, hcv_168, hdv_168⟩
          · exact absurd hcv_168 (by omega)
          refine j7_read hx hb hown hK (C := RX3) (T := TX3) (N := 4) rfl hly_5_3 hlk_190 (hh_169.at 0 rfl) dX5_cases_158 ?_
          have hsz_171 := hh_169.2.2.2.2.2.1
          have htt_171 := hh_169.2.2.2.2.2.2.1
          refine W.room (fun hrc_171 hrs_171 => ?_)
          refine j_callx (A0 := jA base) (H0 := s.heap) (va_runV (As := [.int z_17, .ref ret_38, .ref formula_170]) (rest := [.ref r0]) ⟨hx, hb, hml, hown, hts⟩ (uX3_withHypothesis l dC dI ca base B hB hAp hB5 hB101 hB280 hB313 G_54 H_54 ret_68 z_17 ret_38 formula_170 m_ret_54 m_ret_26 nformula_170 LC LS) (cwV 3 hts (jgV (jWr_85 _ (List.mem_of_getElem? (i := 0) rfl)) (jWr_85 _ (List.mem_of_getElem? (i := 1) rfl)) (jWr_85 _ (List.mem_of_getElem? (i := 2) rfl)) (jWr_82 _ (List.mem_of_getElem? (i := 10) rfl)) (jWr_85 _ (List.mem_of_getElem? (i := 3) rfl))) rfl rfl rfl (by decide +kernel) ⟨by rw [← hR]; exact Nat.le_of_ble_eq_true rfl, by rw [← hR]; exact Nat.le_of_ble_eq_true rfl⟩) ⟨fun a U g mk q => by obtain ⟨q0, q1, q2, qK, q10, q11, q12, q13, q14, q15⟩ := q; exact ⟨q0, q1, q2, jG.calling g mk a qK, (jK5.moved (Vm.Alike.refl U.vm) q10), q11, q12, q13, q14, q15⟩, hh_169.recv (C := RX3) (T := TX3) (N := 4) hB5 rfl (by decide) hg_ret_68 hK, fun U hU hW => ⟨rfl, hU, hh_169.2.1, hG.step hW hU hh_169.1, jK5.moved hW.alike hK5, hg_ret_68, hg_57, hg_formula_170, jP.nil, by first | omega | (refine ⟨?_, ?_, ?_, ?_⟩ <;> (first | omega | rfl | assumption | decide | exact Or.inl rfl | exact Or.inr rfl | (simp only; omega)))⟩⟩ rfl rfl hl.1 rfl (lv_room (Nat.le_of_ble_eq_true rfl)) dX5_cases_161 ⟨by rw [hRc]; omega, by rw [hRs]; omega⟩) hh_169.1 (fun q _ h => h) (fun q h => h) (fun r_172 u_171 t_171 H_171 locs_171 ht_171 hvm_171 hr_172 hb_171 hz_171 hk_171 hS_171 => ?_)
          rw [ht_171] at hb_171
          obtain ⟨m_ret_171, G_171⟩ := u_171
          simp only at hb_171
          obtain ⟨⟨hb_1711, hb_1712, hb_1713, hb_1714, hb_1715, hb_1716⟩, hN_171⟩ := hb_171
          have hh_171 : jSt (dC, dI) B base G0 G_171 EX5_cases s.heap ((((0 + (1)) + (1)) + (3)) + (3)) ((((0 + (m_ret_26)) + (m_ret_40)) + (24)) + (24)) [(r1, 5, 3, .ref formula_170), (syntax_9, 12, 6, .ref told_12), (r0, 7, 1, .ref syntax_9), (r1, 5, 1, .ref names_6), (r1, 5, 2, .ref hypotheses_3), (r0, 7, 10, .int pf)] [] [(jFg, jFr dC dI ca G_54 r0)] H_171 locs_171 := (hh_169.callG hb_1711 hb_1712 hb_1713 hb_1714 hb_1715 hS_171 rfl (L1 := [(r1, 5, 3, .ref formula_170), (syntax_9, 12, 6, .ref told_12), (r0, 7, 1, .ref syntax_9), (r1, 5, 1, .ref names_6), (r1, 5, 2, .ref hypotheses_3), (r0, 7, 10, .int pf)]) [0, 1, 2, 3, 4, 5] rfl rfl (M1 := []) [] rfl rfl (I1 := [(jFg, jFr dC dI ca G_54 r0)]) [0] rfl rfl).more hb_1716
          have hNn_171 : (jNk [0, 1, 2, 3, 4, 6, 7, 8, 9, 10, 11, 12, 13, 14, 15, 16, 17, 175]) G0 G_171 := (hNn_54).tr hN_171
          have hg_173 := hb_1712 _ _ hg_ret_68
          have hg_174 := hb_1712 _ _ hg_56
          have hg_175 := hb_1712 _ _ hg_57
          have hg_176 := hb_1712 _ _ hg_58
          have hg_177 := hb_1712 _ _ hg_59
          have hg_178 := hb_1712 _ _ hg_60
          have hg_179 := hb_1712 _ _ hg_formula_170
          have hg_180 := hb_1712 _ _ hg_61
          have hg_181 := hb_1712 _ _ hg_62
          have hg_182 := hb_1712 _ _ hg_63
          have hg_183 := hb_1712 _ _ hg_64
          have hd_184 := jFr.grow (hh_171.iv 0 rfl) hb_1712
          have hh_185 := hh_171.sub (L1 := [(r1, 5, 3, .ref formula_170), (syntax_9, 12, 6, .ref told_12), (r0, 7, 1, .ref syntax_9), (r1, 5, 1, .ref names_6), (r1, 5, 2, .ref hypotheses_3), (r0, 7, 10, .int pf)]) [0, 1, 2, 3, 4, 5] rfl (M1 := []) [] rfl (I1 := []) [] rfl
          clear hh_171
          have hh_186 := hh_185.addI (jFr.ie hd_184)
          clear hh_185
          obtain ⟨hr_172, hr_172n, hr_172p⟩ := hr_172
          try simp only at hr_172p
          obtain ⟨hr_172p_0, hr_172p_1⟩ := hr_172p
          obtain ⟨ret_187, rfl, hg_ret_187⟩ := hr_172
          have hsy_171 : s.heap.size ≤ ret_187 := Nat.le_trans hh_169.1.1 hr_172n.le
          have hsz_188 := hh_186.2.2.2.2.2.1
          have htt_188 := hh_186.2.2.2.2.2.2.1
          refine W.room (fun hrc_188 hrs_188 => ?_)
          refine va_calli (A0 := jA base) (H0 := s.heap) (va_runV (As := [.ref ret_187]) (rest := []) ⟨hx, hb, hml, hown, hts⟩ (uX5_add l dC dI ca base B hB hAp hB5 hB7 hB211 G_171 H_171 r0 ret_187 m_ret_171 pf) (cwV 1 hts (jgV (jWr_85 _ (List.mem_of_getElem? (i := 8) rfl)) (jWr_85 _ (List.mem_of_getElem? (i := 9) rfl)) (jWr_85 _ (List.mem_of_getElem? (i := 10) rfl)) (jWr_2 _ (List.mem_of_getElem? (i := 4) rfl)) (jWr_85 _ (List.mem_of_getElem? (i := 11) rfl))) rfl rfl rfl (by decide +kernel) ⟨by rw [← hR]; exact Nat.le_of_ble_eq_true rfl, by rw [← hR]; exact Nat.le_of_ble_eq_true rfl⟩) ⟨fun a U g mk q => by obtain ⟨q0, q1, q2, qK, q10, q11, q12, q13, q14, q15⟩ := q; exact ⟨q0, q1, q2, jG.calling g mk a qK, (va_K.moved (Vm.Alike.refl U.vm) q10), q11, q12, q13, q14, q15⟩, hh_186.recv (C := RX5) (T := TX5) (N := 11) hB7 rfl (by decide) hg_176 hK, fun U hU hW => ⟨rfl, hU, hh_186.2.1, hG.step hW hU hh_186.1, va_K.moved hW.alike hK2, hg_176, hg_ret_187, (hh_186.2.2.1.sub (L1 := [(r0, 7, 10, .int pf)]) [5] rfl), (hh_186.2.2.2.2.2.2.2.2.sub (L1 := [(jFg, jFr dC dI ca G_171 r0)]) [0] rfl), by first | omega | (refine ⟨?_, ?_, ?_⟩ <;> (first | omega | rfl | assumption | decide | exact Or.inl rfl | exact Or.inr rfl | (simp only; omega)))⟩⟩ rfl rfl hl.1 rfl (lv_room (Nat.le_of_ble_eq_true rfl)) dX5_cases_164 ⟨by rw [hRc]; show _ + 0 ≤ _; omega, by rw [hRs]; show _ + 0 ≤ _; omega⟩) hh_186.1 (fun q _ h => h) (fun q h => h) (fun r_189 u_188 t_188 H_188 locs_188 ht_188 hvm_188 hr_189 hb_188 hz_188 hk_188 hS_188 => ?_)
          obtain ⟨qf_188, rfl⟩ : ∃ z, z = u_188 := ⟨_, rfl⟩
          rw [ht_188] at hb_188
          obtain ⟨hb_188, hbE_188⟩ := hb_188
          obtain ⟨hb_1881, hb_1882, hb_1883, hb_1884, hb_1885⟩ := hb_188
          have hh_188 : jSt (dC, dI) B base G0 G_171 EX5_cases s.heap ((((0 + (1)) + (1)) + (3)) + (3)) ((((0 + (m_ret_26)) + (m_ret_40)) + (24)) + (24)) [(r0, 7, 10, .int qf_188), (r1, 5, 3, .ref formula_170), (syntax_9, 12, 6, .ref told_12), (r0, 7, 1, .ref syntax_9), (r1, 5, 1, .ref names_6), (r1, 5, 2, .ref hypotheses_3)] [] [(jFg, jFr dC dI ca G_171 r0)] H_188 locs_188 := (((hh_186.call hb_1881 hb_1882 hb_1883 hb_1884 hS_188 rfl (L1 := [(r1, 5, 3, .ref formula_170), (syntax_9, 12, 6, .ref told_12), (r0, 7, 1, .ref syntax_9), (r1, 5, 1, .ref names_6), (r1, 5, 2, .ref hypotheses_3)]) [0, 1, 2, 3, 4] rfl rfl (M1 := []) [] rfl rfl (I1 := []) [] rfl rfl).more hb_1885)).addIs hbE_188
          clear hh_186 ht_188 hvm_188 hz_188 hk_188 hS_188 hb_1881 hb_1882 hb_1883 hb_1884 hb_1885
          clear  hbE_188
          obtain ⟨hr_189_0, hr_189_1⟩ := hr_189
          refine lv_pop hx hb dX5_cases_167 rfl ?_
          refine lv_aload_n hx hb dX5_cases_168 rfl (lv_at hl 5 rfl) ?_
          refine lv_aload hx hb dX5_cases_169 (lv_at hl 0 rfl) ?_
          refine lv_iload hx hb dX5_cases_171 (lv_at hl 9 rfl) ?_
          refine lv_aload hx hb dX5_cases_173 (lv_at hl 1 rfl) ?_
          refine lv_aload_n hx hb dX5_cases_175 rfl (lv_at hl 6 rfl) ?_
          refine j7_read hx hb hown hK (C := RX3) (T := TX3) (N := 4) rfl hly_5_3 hlk_190 (hh_188.at 1 rfl) dX5_cases_176 ?_
          have hsz_190 := hh_188.2.2.2.2.2.1
          have htt_190 := hh_188.2.2.2.2.2.2.1
          refine W.room (fun hrc_190 hrs_190 => ?_)
          refine j_callx (A0 := jA base) (H0 := s.heap) (va_runV (As := [.int z_18, .ref ret_53, .ref formula_170]) (rest := [.ref r0]) ⟨hx, hb, hml, hown, hts⟩ (uX3_withHypothesis l dC dI ca base B hB hAp hB5 hB101 hB280 hB313 G_171 H_188 ret_68 z_18 ret_53 formula_170 m_ret_54 m_ret_40 nformula_170 LC LS) (cwV 3 hts (jgV (jWr_85 _ (List.mem_of_getElem? (i := 0) rfl)) (jWr_85 _ (List.mem_of_getElem? (i := 1) rfl)) (jWr_85 _ (List.mem_of_getElem? (i := 2) rfl)) (jWr_82 _ (List.mem_of_getElem? (i := 10) rfl)) (jWr_85 _ (List.mem_of_getElem? (i := 3) rfl))) rfl rfl rfl (by decide +kernel) ⟨by rw [← hR]; exact Nat.le_of_ble_eq_true rfl, by rw [← hR]; exact Nat.le_of_ble_eq_true rfl⟩) ⟨fun a U g mk q => by obtain ⟨q0, q1, q2, qK, q10, q11, q12, q13, q14, q15⟩ := q; exact ⟨q0, q1, q2, jG.calling g mk a qK, (jK5.moved (Vm.Alike.refl U.vm) q10), q11, q12, q13, q14, q15⟩, hh_188.recv (C := RX3) (T := TX3) (N := 4) hB5 rfl (by decide) hg_173 hK, fun U hU hW => ⟨rfl, hU, hh_188.2.1, hG.step hW hU hh_188.1, jK5.moved hW.alike hK5, hg_173, hg_174, hg_179, jP.nil, by first | omega | (refine ⟨?_, ?_, ?_, ?_⟩ <;> (first | omega | rfl | assumption | decide | exact Or.inl rfl | exact Or.inr rfl | (simp only; omega)))⟩⟩ rfl rfl hl.1 rfl (lv_room (Nat.le_of_ble_eq_true rfl)) dX5_cases_179 ⟨by rw [hRc]; omega, by rw [hRs]; omega⟩) hh_188.1 (fun q _ h => h) (fun q h => h) (fun r_191 u_190 t_190 H_190 locs_190 ht_190 hvm_190 hr_191 hb_190 hz_190 hk_190 hS_190 => ?_)
          rw [ht_190] at hb_190
          obtain ⟨m_ret_190, G_190⟩ := u_190
          simp only at hb_190
          obtain ⟨⟨hb_1901, hb_1902, hb_1903, hb_1904, hb_1905, hb_1906⟩, hN_190⟩ := hb_190
          have hh_190 : jSt (dC, dI) B base G0 G_190 EX5_cases s.heap (((((0 + (1)) + (1)) + (3)) + (3)) + (3)) (((((0 + (m_ret_26)) + (m_ret_40)) + (24)) + (24)) + (24)) [(r0, 7, 10, .int qf_188), (r1, 5, 3, .ref formula_170), (syntax_9, 12, 6, .ref told_12), (r0, 7, 1, .ref syntax_9), (r1, 5, 1, .ref names_6), (r1, 5, 2, .ref hypotheses_3)] [] [(jFg, jFr dC dI ca G_171 r0)] H_190 locs_190 := (hh_188.callG hb_1901 hb_1902 hb_1903 hb_1904 hb_1905 hS_190 rfl (L1 := [(r0, 7, 10, .int qf_188), (r1, 5, 3, .ref formula_170), (syntax_9, 12, 6, .ref told_12), (r0, 7, 1, .ref syntax_9), (r1, 5, 1, .ref names_6), (r1, 5, 2, .ref hypotheses_3)]) [0, 1, 2, 3, 4, 5] rfl rfl (M1 := []) [] rfl rfl (I1 := [(jFg, jFr dC dI ca G_171 r0)]) [0] rfl rfl).more hb_1906
          have hNn_190 : (jNk [0, 1, 2, 3, 4, 6, 7, 8, 9, 10, 11, 12, 13, 14, 15, 16, 17, 175]) G0 G_190 := (hNn_171).tr hN_190
          have hg_192 := hb_1902 _ _ hg_173
          have hg_193 := hb_1902 _ _ hg_174
          have hg_194 := hb_1902 _ _ hg_175
          have hg_195 := hb_1902 _ _ hg_176
          have hg_196 := hb_1902 _ _ hg_177
          have hg_197 := hb_1902 _ _ hg_178
          have hg_198 := hb_1902 _ _ hg_179
          have hg_199 := hb_1902 _ _ hg_180
          have hg_200 := hb_1902 _ _ hg_181
          have hg_201 := hb_1902 _ _ hg_182
          have hg_202 := hb_1902 _ _ hg_183
          have hd_203 := jFr.grow (hh_190.iv 0 rfl) hb_1902
          have hh_204 := hh_190.sub (L1 := [(r0, 7, 10, .int qf_188), (r1, 5, 3, .ref formula_170), (syntax_9, 12, 6, .ref told_12), (r0, 7, 1, .ref syntax_9), (r1, 5, 1, .ref names_6), (r1, 5, 2, .ref hypotheses_3)]) [0, 1, 2, 3, 4, 5] rfl (M1 := []) [] rfl (I1 := []) [] rfl
          clear hh_190
          have hh_205 := hh_204.addI (jFr.ie hd_203)
          clear hh_204
          obtain ⟨hr_191, hr_191n, hr_191p⟩ := hr_191
          try simp only at hr_191p
          obtain ⟨hr_191p_0, hr_191p_1⟩ := hr_191p
          obtain ⟨ret_206, rfl, hg_ret_206⟩ := hr_191
          have hsy_190 : s.heap.size ≤ ret_206 := Nat.le_trans hh_188.1.1 hr_191n.le
          have hsz_207 := hh_205.2.2.2.2.2.1
          have htt_207 := hh_205.2.2.2.2.2.2.1
          refine W.room (fun hrc_207 hrs_207 => ?_)
          refine va_calli (A0 := jA base) (H0 := s.heap) (va_runV (As := [.ref ret_206]) (rest := []) ⟨hx, hb, hml, hown, hts⟩ (uX5_add l dC dI ca base B hB hAp hB5 hB7 hB211 G_190 H_190 r0 ret_206 m_ret_190 qf_188) (cwV 1 hts (jgV (jWr_85 _ (List.mem_of_getElem? (i := 8) rfl)) (jWr_85 _ (List.mem_of_getElem? (i := 9) rfl)) (jWr_85 _ (List.mem_of_getElem? (i := 10) rfl)) (jWr_2 _ (List.mem_of_getElem? (i := 4) rfl)) (jWr_85 _ (List.mem_of_getElem? (i := 11) rfl))) rfl rfl rfl (by decide +kernel) ⟨by rw [← hR]; exact Nat.le_of_ble_eq_true rfl, by rw [← hR]; exact Nat.le_of_ble_eq_true rfl⟩) ⟨fun a U g mk q => by obtain ⟨q0, q1, q2, qK, q10, q11, q12, q13, q14, q15⟩ := q; exact ⟨q0, q1, q2, jG.calling g mk a qK, (va_K.moved (Vm.Alike.refl U.vm) q10), q11, q12, q13, q14, q15⟩, hh_205.recv (C := RX5) (T := TX5) (N := 11) hB7 rfl (by decide) hg_195 hK, fun U hU hW => ⟨rfl, hU, hh_205.2.1, hG.step hW hU hh_205.1, va_K.moved hW.alike hK2, hg_195, hg_ret_206, (hh_205.2.2.1.sub (L1 := [(r0, 7, 10, .int qf_188)]) [0] rfl), (hh_205.2.2.2.2.2.2.2.2.sub (L1 := [(jFg, jFr dC dI ca G_190 r0)]) [0] rfl), by first | omega | (refine ⟨?_, ?_, ?_⟩ <;> (first | omega | rfl | assumption | decide | exact Or.inl rfl | exact Or.inr rfl | (simp only; omega)))⟩⟩ rfl rfl hl.1 rfl (lv_room (Nat.le_of_ble_eq_true rfl)) dX5_cases_182 ⟨by rw [hRc]; show _ + 0 ≤ _; omega, by rw [hRs]; show _ + 0 ≤ _; omega⟩) hh_205.1 (fun q _ h => h) (fun q h => h) (fun r_208 u_207 t_207 H_207 locs_207 ht_207 hvm_207 hr_208 hb_207 hz_207 hk_207 hS_207 => ?_)
          obtain ⟨qf_207, rfl⟩ : ∃ z, z = u_207 := ⟨_, rfl⟩
          rw [ht_207] at hb_207
          obtain ⟨hb_207, hbE_207⟩ := hb_207
          obtain ⟨hb_2071, hb_2072, hb_2073, hb_2074, hb_2075⟩ := hb_207
          have hh_207 : jSt (dC, dI) B base G0 G_190 EX5_cases s.heap (((((0 + (1)) + (1)) + (3)) + (3)) + (3)) (((((0 + (m_ret_26)) + (m_ret_40)) + (24)) + (24)) + (24)) [(r0, 7, 10, .int qf_207), (r1, 5, 3, .ref formula_170), (syntax_9, 12, 6, .ref told_12), (r0, 7, 1, .ref syntax_9), (r1, 5, 1, .ref names_6), (r1, 5, 2, .ref hypotheses_3)] [] [(jFg, jFr dC dI ca G_190 r0)] H_207 locs_207 := (((hh_205.call hb_2071 hb_2072 hb_2073 hb_2074 hS_207 rfl (L1 := [(r1, 5, 3, .ref formula_170), (syntax_9, 12, 6, .ref told_12), (r0, 7, 1, .ref syntax_9), (r1, 5, 1, .ref names_6), (r1, 5, 2, .ref hypotheses_3)]) [1, 2, 3, 4, 5] rfl rfl (M1 := []) [] rfl rfl (I1 := []) [] rfl rfl).more hb_2075)).addIs hbE_207
          clear hh_205 ht_207 hvm_207 hz_207 hk_207 hS_207 hb_2071 hb_2072 hb_2073 hb_2074 hb_2075
          clear  hbE_207
          obtain ⟨hr_208_0, hr_208_1⟩ := hr_208
          have hsz_209 := hh_207.2.2.2.2.2.1
          have htt_209 := hh_207.2.2.2.2.2.2.1
          refine W.room (fun hrc_209 hrs_209 => ?_)
          refine W.widen (k := LC - s.heap.size) (n := LS - jTot s.heap) (by omega) (by omega) ?_
          rw [hQ]
          exact W.iret (v := r_208) hx hb hr (fun t ht hW => ⟨⟨r_208, (qf_207, G_190), rfl, by (try dsimp only); exact ⟨(by first | omega | rfl | assumption | fail), (by first | omega | rfl | assumption | fail)⟩, ⟨hh_207.ra (by first | omega | (simp only; omega)) (by first | omega | (simp only; omega)) (M1 := [(r0, 7, 10, .int qf_207)]) [0] rfl ht, hNn_190, by rw [ht]; exact hh_207.2.2.2.2.2.2.2.2.sub (L1 := [(jFg, jFr dC dI ca G_190 r0)]) [0] rfl⟩⟩, by rw [ht]; try exact hh_207.1.1, fun q h9 hq => by rw [ht]; try exact hh_207.1.2.1 q h9 hq⟩) hh_207.1.2.2 dX5_cases_185
      · skip
        have c_69' : w0_22.toInt = 2 := jb_ne_n (rfl) ((by decide)) c_69
        refine lv_aload_n hx hb dX5_cases_117 rfl (lv_at hl 5 rfl) ?_
        refine lv_aload hx hb dX5_cases_118 (lv_at hl 0 rfl) ?_
        refine lv_iload_n hx hb dX5_cases_120 rfl (lv_at hl 8 rfl) ?_
        refine lv_aload hx hb dX5_cases_121 (lv_at hl 2 rfl) ?_
        refine lv_aload_n hx hb dX5_cases_123 rfl (lv_at hl 6 rfl) ?_
        obtain ⟨v_210, hv_210, hh_211⟩ := hh_67.pin (C := RX3) (T := TX3) (N := 4) hB5 rfl (by decide) hg_59 (i := 3) (by decide) rfl
        clear hh_67
        rcases hv_210 with ⟨rfl, hcv_210⟩ | ⟨formula_212, nformula_212, rfl, hg_formula_212, hn_formula_212, hcv_210, hdv_210⟩
        · exact absurd hcv_210 (by omega)
        refine j7_read hx hb hown hK (C := RX3) (T := TX3) (N := 4) rfl hly_5_3 hlk_190 (hh_211.at 0 rfl) dX5_cases_124 ?_
        have hsz_213 := hh_211.2.2.2.2.2.1
        have htt_213 := hh_211.2.2.2.2.2.2.1
        refine W.room (fun hrc_213 hrs_213 => ?_)
        refine j_callx (A0 := jA base) (H0 := s.heap) (va_runV (As := [.int z_17, .ref ret_38, .ref formula_212]) (rest := [.ref r0]) ⟨hx, hb, hml, hown, hts⟩ (uX3_withHypothesis l dC dI ca base B hB hAp hB5 hB101 hB280 hB313 G_54 H_54 ret_68 z_17 ret_38 formula_212 m_ret_54 m_ret_26 nformula_212 LC LS) (cwV 3 hts (jgV (jWr_85 _ (List.mem_of_getElem? (i := 0) rfl)) (jWr_85 _ (List.mem_of_getElem? (i := 1) rfl)) (jWr_85 _ (List.mem_of_getElem? (i := 2) rfl)) (jWr_82 _ (List.mem_of_getElem? (i := 10) rfl)) (jWr_85 _ (List.mem_of_getElem? (i := 3) rfl))) rfl rfl rfl (by decide +kernel) ⟨by rw [← hR]; exact Nat.le_of_ble_eq_true rfl, by rw [← hR]; exact Nat.le_of_ble_eq_true rfl⟩) ⟨fun a U g mk q => by obtain ⟨q0, q1, q2, qK, q10, q11, q12, q13, q14, q15⟩ := q; exact ⟨q0, q1, q2, jG.calling g mk a qK, (jK5.moved (Vm.Alike.refl U.vm) q10), q11, q12, q13, q14, q15⟩, hh_211.recv (C := RX3) (T := TX3) (N := 4) hB5 rfl (by decide) hg_ret_68 hK, fun U hU hW => ⟨rfl, hU, hh_211.2.1, hG.step hW hU hh_211.1, jK5.moved hW.alike hK5, hg_ret_68, hg_57, hg_formula_212, jP.nil, by first | omega | (refine ⟨?_, ?_, ?_, ?_⟩ <;> (first | omega | rfl | assumption | decide | exact Or.inl rfl | exact Or.inr rfl | (simp only; omega)))⟩⟩ rfl rfl hl.1 rfl (lv_room (Nat.le_of_ble_eq_true rfl)) dX5_cases_127 ⟨by rw [hRc]; omega, by rw [hRs]; omega⟩) hh_211.1 (fun q _ h => h) (fun q h => h) (fun r_214 u_213 t_213 H_213 locs_213 ht_213 hvm_213 hr_214 hb_213 hz_213 hk_213 hS_213 => ?_)
        rw [ht_213] at hb_213
        obtain ⟨m_ret_213, G_213⟩ := u_213
        simp only at hb_213
        obtain ⟨⟨hb_2131, hb_2132, hb_2133, hb_2134, hb_2135, hb_2136⟩, hN_213⟩ := hb_213
        have hh_213 : jSt (dC, dI) B base G0 G_213 EX5_cases s.heap ((((0 + (1)) + (1)) + (3)) + (3)) ((((0 + (m_ret_26)) + (m_ret_40)) + (24)) + (24)) [(r1, 5, 3, .ref formula_212), (syntax_9, 12, 6, .ref told_12), (r0, 7, 1, .ref syntax_9), (r1, 5, 1, .ref names_6), (r1, 5, 2, .ref hypotheses_3), (r0, 7, 10, .int pf)] [] [(jFg, jFr dC dI ca G_54 r0)] H_213 locs_213 := (hh_211.callG hb_2131 hb_2132 hb_2133 hb_2134 hb_2135 hS_213 rfl (L1 := [(r1, 5, 3, .ref formula_212), (syntax_9, 12, 6, .ref told_12), (r0, 7, 1, .ref syntax_9), (r1, 5, 1, .ref names_6), (r1, 5, 2, .ref hypotheses_3), (r0, 7, 10, .int pf)]) [0, 1, 2, 3, 4, 5] rfl rfl (M1 := []) [] rfl rfl (I1 := [(jFg, jFr dC dI ca G_54 r0)]) [0] rfl rfl).more hb_2136
        have hNn_213 : (jNk [0, 1, 2, 3, 4, 6, 7, 8, 9, 10, 11, 12, 13, 14, 15, 16, 17, 175]) G0 G_213 := (hNn_54).tr hN_213
        have hg_215 := hb_2132 _ _ hg_ret_68
        have hg_216 := hb_2132 _ _ hg_56
        have hg_217 := hb_2132 _ _ hg_57
        have hg_218 := hb_2132 _ _ hg_58
        have hg_219 := hb_2132 _ _ hg_59
        have hg_220 := hb_2132 _ _ hg_60
        have hg_221 := hb_2132 _ _ hg_formula_212
        have hg_222 := hb_2132 _ _ hg_61
        have hg_223 := hb_2132 _ _ hg_62
        have hg_224 := hb_2132 _ _ hg_63
        have hg_225 := hb_2132 _ _ hg_64
        have hd_226 := jFr.grow (hh_213.iv 0 rfl) hb_2132
        have hh_227 := hh_213.sub (L1 := [(r1, 5, 3, .ref formula_212), (syntax_9, 12, 6, .ref told_12), (r0, 7, 1, .ref syntax_9), (r1, 5, 1, .ref names_6), (r1, 5, 2, .ref hypotheses_3), (r0, 7, 10, .int pf)]) [0, 1, 2, 3, 4, 5] rfl (M1 := []) [] rfl (I1 := []) [] rfl
        clear hh_213
        have hh_228 := hh_227.addI (jFr.ie hd_226)
        clear hh_227
        obtain ⟨hr_214, hr_214n, hr_214p⟩ := hr_214
        try simp only at hr_214p
        obtain ⟨hr_214p_0, hr_214p_1⟩ := hr_214p
        obtain ⟨ret_229, rfl, hg_ret_229⟩ := hr_214
        have hsy_213 : s.heap.size ≤ ret_229 := Nat.le_trans hh_211.1.1 hr_214n.le
        refine lv_iload hx hb dX5_cases_130 (lv_at hl 9 rfl) ?_
        refine lv_aload hx hb dX5_cases_132 (lv_at hl 1 rfl) ?_
        refine lv_aload_n hx hb dX5_cases_134 rfl (lv_at hl 6 rfl) ?_
        refine j7_read hx hb hown hK (C := RX3) (T := TX3) (N := 4) rfl hly_5_3 hlk_190 (hh_228.at 0 rfl) dX5_cases_135 ?_
        have hsz_230 := hh_228.2.2.2.2.2.1
        have htt_230 := hh_228.2.2.2.2.2.2.1
        refine W.room (fun hrc_230 hrs_230 => ?_)
        refine j_callx (A0 := jA base) (H0 := s.heap) (va_runV (As := [.int z_18, .ref ret_53, .ref formula_212]) (rest := [.ref r0]) ⟨hx, hb, hml, hown, hts⟩ (uX3_withHypothesis l dC dI ca base B hB hAp hB5 hB101 hB280 hB313 G_213 H_213 ret_229 z_18 ret_53 formula_212 m_ret_213 m_ret_40 nformula_212 LC LS) (cwV 3 hts (jgV (jWr_85 _ (List.mem_of_getElem? (i := 0) rfl)) (jWr_85 _ (List.mem_of_getElem? (i := 1) rfl)) (jWr_85 _ (List.mem_of_getElem? (i := 2) rfl)) (jWr_82 _ (List.mem_of_getElem? (i := 10) rfl)) (jWr_85 _ (List.mem_of_getElem? (i := 3) rfl))) rfl rfl rfl (by decide +kernel) ⟨by rw [← hR]; exact Nat.le_of_ble_eq_true rfl, by rw [← hR]; exact Nat.le_of_ble_eq_true rfl⟩) ⟨fun a U g mk q => by obtain ⟨q0, q1, q2, qK, q10, q11, q12, q13, q14, q15⟩ := q; exact ⟨q0, q1, q2, jG.calling g mk a qK, (jK5.moved (Vm.Alike.refl U.vm) q10), q11, q12, q13, q14, q15⟩, hh_228.recv (C := RX3) (T := TX3) (N := 4) hB5 rfl (by decide) hg_ret_229 hK, fun U hU hW => ⟨rfl, hU, hh_228.2.1, hG.step hW hU hh_228.1, jK5.moved hW.alike hK5, hg_ret_229, hg_216, hg_221, jP.nil, by first | omega | (refine ⟨?_, ?_, ?_, ?_⟩ <;> (first | omega | rfl | assumption | decide | exact Or.inl rfl | exact Or.inr rfl | (simp only; omega)))⟩⟩ rfl rfl hl.1 rfl (lv_room (Nat.le_of_ble_eq_true rfl)) dX5_cases_138 ⟨by rw [hRc]; omega, by rw [hRs]; omega⟩) hh_228.1 (fun q _ h => h) (fun q h => h) (fun r_231 u_230 t_230 H_230 locs_230 ht_230 hvm_230 hr_231 hb_230 hz_230 hk_230 hS_230 => ?_)
        rw [ht_230] at hb_230
        obtain ⟨m_ret_230, G_230⟩ := u_230
        simp only at hb_230
        obtain ⟨⟨hb_2301, hb_2302, hb_2303, hb_2304, hb_2305, hb_2306⟩, hN_230⟩ := hb_230
        have hh_230 : jSt (dC, dI) B base G0 G_230 EX5_cases s.heap (((((0 + (1)) + (1)) + (3)) + (3)) + (3)) (((((0 + (m_ret_26)) + (m_ret_40)) + (24)) + (24)) + (24)) [(r1, 5, 3, .ref formula_212), (syntax_9, 12, 6, .ref told_12), (r0, 7, 1, .ref syntax_9), (r1, 5, 1, .ref names_6), (r1, 5, 2, .ref hypotheses_3), (r0, 7, 10, .int pf)] [] [(jFg, jFr dC dI ca G_213 r0)] H_230 locs_230 := (hh_228.callG hb_2301 hb_2302 hb_2303 hb_2304 hb_2305 hS_230 rfl (L1 := [(r1, 5, 3, .ref formula_212), (syntax_9, 12, 6, .ref told_12), (r0, 7, 1, .ref syntax_9), (r1, 5, 1, .ref names_6), (r1, 5, 2, .ref hypotheses_3), (r0, 7, 10, .int pf)]) [0, 1, 2, 3, 4, 5] rfl rfl (M1 := []) [] rfl rfl (I1 := [(jFg, jFr dC dI ca G_213 r0)]) [0] rfl rfl).more hb_2306
        have hNn_230 : (jNk [0, 1, 2, 3, 4, 6, 7, 8, 9, 10, 11, 12, 13, 14, 15, 16, 17, 175]) G0 G_230 := (hNn_213).tr hN_230
        have hg_232 := hb_2302 _ _ hg_215
        have hg_233 := hb_2302 _ _ hg_216
        have hg_234 := hb_2302 _ _ hg_217
        have hg_235 := hb_2302 _ _ hg_218
        have hg_236 := hb_2302 _ _ hg_219
        have hg_237 := hb_2302 _ _ hg_220
        have hg_238 := hb_2302 _ _ hg_221
        have hg_239 := hb_2302 _ _ hg_222
        have hg_240 := hb_2302 _ _ hg_223
        have hg_241 := hb_2302 _ _ hg_224
        have hg_242 := hb_2302 _ _ hg_225
        have hd_243 := jFr.grow (hh_230.iv 0 rfl) hb_2302
        have hh_244 := hh_230.sub (L1 := [(r1, 5, 3, .ref formula_212), (syntax_9, 12, 6, .ref told_12), (r0, 7, 1, .ref syntax_9), (r1, 5, 1, .ref names_6), (r1, 5, 2, .ref hypotheses_3), (r0, 7, 10, .int pf)]) [0, 1, 2, 3, 4, 5] rfl (M1 := []) [] rfl (I1 := []) [] rfl
        clear hh_230
        have hh_245 := hh_244.addI (jFr.ie hd_243)
        clear hh_244
        obtain ⟨hr_231, hr_231n, hr_231p⟩ := hr_231
        try simp only at hr_231p
        obtain ⟨hr_231p_0, hr_231p_1⟩ := hr_231p
        obtain ⟨ret_246, rfl, hg_ret_246⟩ := hr_231
        have hsy_230 : s.heap.size ≤ ret_246 := Nat.le_trans hh_228.1.1 hr_231n.le
        have hsz_247 := hh_245.2.2.2.2.2.1
        have htt_247 := hh_245.2.2.2.2.2.2.1
        refine W.room (fun hrc_247 hrs_247 => ?_)
        refine va_calli (A0 := jA base) (H0 := s.heap) (va_runV (As := [.ref ret_246]) (rest := []) ⟨hx, hb, hml, hown, hts⟩ (uX5_add l dC dI ca base B hB hAp hB5 hB7 hB211 G_230 H_230 r0 ret_246 m_ret_230 pf) (cwV 1 hts (jgV (jWr_85 _ (List.mem_of_getElem? (i := 8) rfl)) (jWr_85 _ (List.mem_of_getElem? (i := 9) rfl)) (jWr_85 _ (List.mem_of_getElem? (i := 10) rfl)) (jWr_2 _ (List.mem_of_getElem? (i := 4) rfl)) (jWr_85 _ (List.mem_of_getElem? (i := 11) rfl))) rfl rfl rfl (by decide +kernel) ⟨by rw [← hR]; exact Nat.le_of_ble_eq_true rfl, by rw [← hR]; exact Nat.le_of_ble_eq_true rfl⟩) ⟨fun a U g mk q => by obtain ⟨q0, q1, q2, qK, q10, q11, q12, q13, q14, q15⟩ := q; exact ⟨q0, q1, q2, jG.calling g mk a qK, (va_K.moved (Vm.Alike.refl U.vm) q10), q11, q12, q13, q14, q15⟩, hh_245.recv (C := RX5) (T := TX5) (N := 11) hB7 rfl (by decide) hg_235 hK, fun U hU hW => ⟨rfl, hU, hh_245.2.1, hG.step hW hU hh_245.1, va_K.moved hW.alike hK2, hg_235, hg_ret_246, (hh_245.2.2.1.sub (L1 := [(r0, 7, 10, .int pf)]) [5] rfl), (hh_245.2.2.2.2.2.2.2.2.sub (L1 := [(jFg, jFr dC dI ca G_230 r0)]) [0] rfl), by first | omega | (refine ⟨?_, ?_, ?_⟩ <;> (first | omega | rfl | assumption | decide | exact Or.inl rfl | exact Or.inr rfl | (simp only; omega)))⟩⟩ rfl rfl hl.1 rfl (lv_room (Nat.le_of_ble_eq_true rfl)) dX5_cases_141 ⟨by rw [hRc]; show _ + 0 ≤ _; omega, by rw [hRs]; show _ + 0 ≤ _; omega⟩) hh_245.1 (fun q _ h => h) (fun q h => h) (fun r_248 u_247 t_247 H_247 locs_247 ht_247 hvm_247 hr_248 hb_247 hz_247 hk_247 hS_247 => ?_)
        obtain ⟨qf_247, rfl⟩ : ∃ z, z = u_247 := ⟨_, rfl⟩
        rw [ht_247] at hb_247
        obtain ⟨hb_247, hbE_247⟩ := hb_247
        obtain ⟨hb_2471, hb_2472, hb_2473, hb_2474, hb_2475⟩ := hb_247
        have hh_247 : jSt (dC, dI) B base G0 G_230 EX5_cases s.heap (((((0 + (1)) + (1)) + (3)) + (3)) + (3)) (((((0 + (m_ret_26)) + (m_ret_40)) + (24)) + (24)) + (24)) [(r0, 7, 10, .int qf_247), (r1, 5, 3, .ref formula_212), (syntax_9, 12, 6, .ref told_12), (r0, 7, 1, .ref syntax_9), (r1, 5, 1, .ref names_6), (r1, 5, 2, .ref hypotheses_3)] [] [(jFg, jFr dC dI ca G_230 r0)] H_247 locs_247 := (((hh_245.call hb_2471 hb_2472 hb_2473 hb_2474 hS_247 rfl (L1 := [(r1, 5, 3, .ref formula_212), (syntax_9, 12, 6, .ref told_12), (r0, 7, 1, .ref syntax_9), (r1, 5, 1, .ref names_6), (r1, 5, 2, .ref hypotheses_3)]) [0, 1, 2, 3, 4] rfl rfl (M1 := []) [] rfl rfl (I1 := []) [] rfl rfl).more hb_2475)).addIs hbE_247
        clear hh_245 ht_247 hvm_247 hz_247 hk_247 hS_247 hb_2471 hb_2472 hb_2473 hb_2474 hb_2475
        clear  hbE_247
        obtain ⟨hr_248_0, hr_248_1⟩ := hr_248
        have hsz_249 := hh_247.2.2.2.2.2.1
        have htt_249 := hh_247.2.2.2.2.2.2.1
        refine W.room (fun hrc_249 hrs_249 => ?_)
        refine W.widen (k := LC - s.heap.size) (n := LS - jTot s.heap) (by omega) (by omega) ?_
        rw [hQ]
        exact W.iret (v := r_248) hx hb hr (fun t ht hW => ⟨⟨r_248, (qf_247, G_230), rfl, by (try dsimp only); exact ⟨(by first | omega | rfl | assumption | fail), (by first | omega | rfl | assumption | fail)⟩, ⟨hh_247.ra (by first | omega | (simp only; omega)) (by first | omega | (simp only; omega)) (M1 := [(r0, 7, 10, .int qf_247)]) [0] rfl ht, hNn_230, by rw [ht]; exact hh_247.2.2.2.2.2.2.2.2.sub (L1 := [(jFg, jFr dC dI ca G_230 r0)]) [0] rfl⟩⟩, by rw [ht]; try exact hh_247.1.1, fun q h9 hq => by rw [ht]; try exact hh_247.1.2.1 q h9 hq⟩) hh_247.1.2.2 dX5_cases_144
    refine lv_if_le (tgt := 68) hx hb dX5_cases_55 (by decide) (fun c_250 => ?_) (fun c_250 => ?_)
    · skip
      have c_250' : z_21.toInt ≤ 0 := jb_le (rfl) ((by decide)) c_250
      refine lv_iconst (v := 0) hx hb dX5_cases_68 (by decide) ?_
      refine W.tight (c2 := 0) (n2 := 0) hh_14.2.2.2.2.2.1 hh_14.2.2.2.2.2.2.1 ?_
      exact C69 0 _ _ hh_14 (by first | omega | rfl | assumption | decide | exact Or.inl rfl | exact Or.inr rfl | (simp only; omega)) _ (lv_sub hl [4, 5, 3, 2, 1, 0] rfl)
    · skip
      have c_250' : z_21.toInt > 0 := jb_le_n (rfl) ((by decide)) c_250
      refine lv_aload hx hb dX5_cases_58 (lv_at hl 0 rfl) ?_
      refine lv_iconst (v := 0) hx hb dX5_cases_60 (by decide) ?_
      refine j7_iald hx hb hK hh_14 hB280 1 rfl (by decide) hg_el_20 (x := 0) ((by decide)) (by omega) dX5_cases_61 (fun z_251 (hz_251 : -1 ≤ z_251.toInt) => ?_)
      refine lv_bipush (v := 15) hx hb dX5_cases_62 (by decide) ?_
      refine lv_iand hx hb dX5_cases_64 ?_
      refine lv_topi (fun z_252 ez_252 => ?_)
      have hz_252 : 0 ≤ z_252.toInt ∧ z_252.toInt ≤ 15 := by rw [ez_252]; exact jb_and z_251 (m := 15) (k := 4) (by decide) (by decide)
      have hbz_252 : z_252.toInt = z_251.toInt % 16 := by rw [ez_252, jb_and15]
      refine lv_goto (tgt := 69) hx hb dX5_cases_65 (by decide) ?_
      refine W.tight (c2 := 0) (n2 := 0) hh_14.2.2.2.2.2.1 hh_14.2.2.2.2.2.2.1 ?_
      exact C69 z_252 _ _ hh_14 (by first | omega | rfl | assumption | decide | exact Or.inl rfl | exact Or.inr rfl | (simp only; omega)) _ (lv_sub hl [4, 5, 3, 2, 1, 0] rfl)
  · skip
    have c_16' : r_15.toInt < 0 := jb_ge_n (rfl) ((by decide)) c_16
    refine lv_iconst (v := 5) hx hb dX5_cases_21 (by decide) ?_
    have hsz_253 := hh_14.2.2.2.2.2.1
    have htt_253 := hh_14.2.2.2.2.2.2.1
    refine W.room (fun hrc_253 hrs_253 => ?_)
    refine W.widen (k := LC - s.heap.size) (n := LS - jTot s.heap) (by omega) (by omega) ?_
    rw [hQ]
    exact W.iret (v := 5) hx hb hr (fun t ht hW => ⟨⟨5, (pf, G0), rfl, by (try dsimp only); exact ⟨(by first | omega | rfl | assumption | fail), (by first | omega | rfl | assumption | fail)⟩, ⟨hh_14.ra (by first | omega | (simp only; omega)) (by first | omega | (simp only; omega)) (M1 := [(r0, 7, 10, .int pf)]) [4] rfl ht, jNk.rf, by rw [ht]; exact hh_14.2.2.2.2.2.2.2.2.sub (L1 := [(jFg, jFr dC dI ca G0 r0)]) [0] rfl⟩⟩, by rw [ht]; try exact hh_14.1.1, fun q h9 hq => by rw [ht]; try exact hh_14.1.2.1 q h9 hq⟩) hh_14.1.2.2 dX5_cases_22
set_option maxHeartbeats 4000000 in
set_option maxRecDepth 20000 in
theorem uX5_premisesFor (l : Launch) (dC : Nat → ClassId) (dI : Nat → Nat → Nat) (ca : Nat → ClassId) (base : Nat) (B : jF) (hB : jBok B) (hAp : jAp (dC, dI)) (hB7 : ∀ n G a H, B 7 n G a H ↔ jOb (dC, dI) 7 11 (F7 n G) a H) (hB101 : ∀ n G a H, B 101 n G a H ↔ jAr (dC, dI) (ca 1) (fun j z => True) n a H) (hB280 : ∀ n G a H, B 280 n G a H ↔ jAr (dC, dI) (ca 1) (fun j z => -1 ≤ z.toInt) n a H) (hB290 : ∀ n G a H, B 290 n G a H ↔ jAr (dC, dI) (ca 1) (fun j z => 0 ≤ z.toInt ∧ z.toInt ≤ 3000) n a H) (hB291 : ∀ n G a H, B 291 n G a H ↔ jAr (dC, dI) (ca 1) (fun j z => 0 ≤ z.toInt ∧ z.toInt ≤ 3000) n a H) (G0 : jT) (H0 : Heap) (r0 : Nat) (r1 : Nat) (r2 : Nat) (n1 : Nat) (n2 : Nat) (xf : Nat) (xt : Nat) (ff : Nat → Int32) (fx : Nat → Int32) (ft : Nat → Int32) : Met l yX5_premisesFor (jw yX5_premisesFor cX5_premisesFor 6 (some .int)) ({ frames := 2, cells := 0, slots := 0, locals := 55 }) (va_Pc [.ref r0, .ref r1, .ref r2] (fun U => U.heap = H0 ∧ jX B base G0 [] H0 ∧ jG dC dI ca base U ∧ G0 r0 = some (7, 0) ∧ G0 r1 = some (280, n1) ∧ G0 r2 = some (280, n2) ∧ G0 xf = some (290, 13) ∧ G0 xt = some (291, 13) ∧ jP (dC, dI) G0 H0 [(r0, 7, 6, .ref xf), (r0, 7, 7, .ref xt)] ∧ jMc (dC, dI) G0 H0 [(r1, 280, n1, ca 1, ff), (xf, 290, 13, ca 1, fx), (xt, 291, 13, ca 1, ft)] ∧ n1 ≤ 80 ∧ n2 ≤ 80)) (va_Qi (S := (Nat → Int32) × (Nat → Int32) × Nat × Nat) (fun r u => (-1 ≤ r.toInt ∧ r.toInt ≤ 80 ∧ u.2.2.2 ≤ 3000 ∧ (0 ≤ r.toInt → jTf ff n1 u.1 u.2.1 u.2.2.2))) (fun u t => (jRt (dC, dI) B base G0 EX5_premisesFor H0 [(r0, 7, 5, .ref u.2.2.1)] t.heap ∧ jMc (dC, dI) G0 t.heap [(xf, 290, 13, ca 1, u.1), (xt, 291, 13, ca 1, u.2.1)]) ∧ G0 u.2.2.1 = some (280, u.2.2.2)) (jA base)) 0 0 (jA base) := by
  refine Met.ofW (cc := cX5_premisesFor) (maxL := 6) (ret := (some .int)) (by decide) rfl ?_
  intro p e s m args below meth c s₁ Bd hml hv
  obtain ⟨rfl, hH0, hX, hG, hg_r0, hg_r1, hg_r2, hg_xf, hg_xt, hP0, hM0, hp0, hp1⟩ := hv
  have hK := hG.1
  have hx := Bd.exec
  have hb := Bd.bytes
  have hr := Bd.returns
  have hts := atoms_spec (ws := (jw yX5_premisesFor cX5_premisesFor 6 (some .int))) Bd.pre
  have htw : ∀ w ∈ jWl, w.before _ s = true := fun w h => hts w (List.mem_cons_of_mem _ h)
  have hown : s.vm.findClass RX5 = some m.cls := findClass_of_methodNamed Bd.named
  have hlocks := Bd.notSynchronized
  obtain ⟨Q, hQ⟩ : ∃ Q, Q = MQ below (va_Qi (S := (Nat → Int32) × (Nat → Int32) × Nat × Nat) (fun r u => (-1 ≤ r.toInt ∧ r.toInt ≤ 80 ∧ u.2.2.2 ≤ 3000 ∧ (0 ≤ r.toInt → jTf ff n1 u.1 u.2.1 u.2.2.2))) (fun u t => (jRt (dC, dI) B base G0 EX5_premisesFor H0 [(r0, 7, 5, .ref u.2.2.1)] t.heap ∧ jMc (dC, dI) G0 t.heap [(xf, 290, 13, ca 1, u.1), (xt, 291, 13, ca 1, u.2.1)]) ∧ G0 u.2.2.1 = some (280, u.2.2.2)) (jA base)) ([.ref r0, .ref r1, .ref r2] : List Value).toArray s 0 0 (jA base) := ⟨_, rfl⟩
  rw [← hQ]
  have hl := lv_entry ([.ref r0, .ref r1, .ref r2]) (n := 6) (Nat.le_of_ble_eq_true rfl)
  rw [lg_entry_eq]
  generalize (lg_sl ([.ref r0, .ref r1, .ref r2]) ++ List.replicate (6 - (lg_sl ([.ref r0, .ref r1, .ref r2])).length) Slot.unset).toArray = ls at hl ⊢
  have hl : lv_has ls 6 [(0, .ref r0), (1, .ref r1), (2, .ref r2)] := hl
  generalize hR : (headSpec (jw yX5_premisesFor cX5_premisesFor 6 (some .int)) ({ frames := 2, cells := 0, slots := 0, locals := 55 })).room = R
  subst hH0
  have hh : jSt (dC, dI) B base G0 G0 EX5_premisesFor s.heap 0 0 [(r0, 7, 6, .ref xf), (r0, 7, 7, .ref xt)] [(r1, 280, n1, ca 1, ff), (xf, 290, 13, ca 1, fx), (xt, 291, 13, ca 1, ft)] [] s.heap [] := jSt.start hX hP0 hM0 jIs.nil
  clear hX hP0
  have hkm1 : ((-1) : Int32).toInt = (-1) := by decide
  have hk0 : (0 : Int32).toInt = 0 := by decide
  have hk1 : (1 : Int32).toInt = 1 := by decide
  have hk15 : (15 : Int32).toInt = 15 := by decide
  have hk80 : (80 : Int32).toInt = 80 := by decide
  refine lv_aload_n hx hb dX5_premisesFor_0 rfl (lv_at hl 1 rfl) ?_
  refine va_calli (A0 := jA base) (H0 := s.heap) (va_runS (As := [.ref r1]) (rest := []) ⟨hx, hb, hml, hown, hts⟩ (uX5_leadingBoundB l dC dI ca base B hB hAp hB280 G0 s.heap r1 n1 ff) (va_cwS 1 hts (jgS (jWr_86 _ (List.mem_of_getElem? (i := 16) rfl)) (jWr_86 _ (List.mem_of_getElem? (i := 17) rfl)) (jWr_2 _ (List.mem_of_getElem? (i := 4) rfl)) (jWr_86 _ (List.mem_of_getElem? (i := 18) rfl))) rfl rfl rfl (by decide +kernel) ⟨by rw [← hR]; exact Nat.le_of_ble_eq_true rfl, by rw [← hR]; exact Nat.le_of_ble_eq_true rfl⟩) ⟨fun a U g mk q => by obtain ⟨q0, q1, q2, qK, q10, q11, q12, q13⟩ := q; exact ⟨q0, q1, q2, jG.calling g mk a qK, q10, q11, q12, q13⟩, fun U hU hW => ⟨rfl, hU, hh.2.1, hG.step hW hU hh.1, hg_r1, jP.nil, (hh.2.2.2.2.2.2.2.1.sub (L1 := [(r1, 280, n1, ca 1, ff)]) [0] rfl), by first | omega | rfl | assumption | decide | exact Or.inl rfl | exact Or.inr rfl | (simp only; omega)⟩⟩ rfl rfl hl.1 rfl (lv_room (Nat.le_of_ble_eq_true rfl)) dX5_premisesFor_1 ⟨Nat.zero_le _, Nat.zero_le _⟩) hh.1 (fun q _ h => h) (fun q h => h) (fun r_2 u_1 t_1 H_1 locs_1 ht_1 hvm_1 hr_2 hb_1 hz_1 hk_1 hS_1 => ?_)
  rw [ht_1] at hb_1
  obtain ⟨hb_11, hb_12, hb_13, hb_14, hb_15⟩ := hb_1
  have hh_1 : jSt (dC, dI) B base G0 G0 EX5_premisesFor s.heap 0 0 [(r0, 7, 6, .ref xf), (r0, 7, 7, .ref xt)] [(r1, 280, n1, ca 1, ff), (xf, 290, 13, ca 1, fx), (xt, 291, 13, ca 1, ft)] [] H_1 locs_1 := ((hh.call hb_11 hb_12 hb_13 hb_14 hS_1 rfl (L1 := [(r0, 7, 6, .ref xf), (r0, 7, 7, .ref xt)]) [0, 1] rfl rfl (M1 := [(r1, 280, n1, ca 1, ff), (xf, 290, 13, ca 1, fx), (xt, 291, 13, ca 1, ft)]) [0, 1, 2] rfl rfl (I1 := []) [] rfl rfl).more hb_15)
  clear hh ht_1 hvm_1 hz_1 hk_1 hS_1 hb_11 hb_12 hb_13 hb_14 hb_15
  obtain ⟨hr_2_0, hr_2_1, hr_2_2, hr_2_3⟩ := hr_2
  refine lv_istore_n (lv' := [(3, .int r_2), (0, .ref r0), (1, .ref r1), (2, .ref r2)]) hx hb dX5_premisesFor_4 rfl hl (by decide) rfl (fun ls hl => ?_)
  refine lv_iload_n hx hb dX5_premisesFor_5 rfl (lv_at hl 0 rfl) ?_
  refine lv_istore (lv' := [(4, .int r_2), (3, .int r_2), (0, .ref r0), (1, .ref r1), (2, .ref r2)]) hx hb dX5_premisesFor_6 hl (by decide) rfl (fun ls hl => ?_)
  refine lv_iconst (v := 0) hx hb dX5_premisesFor_8 (by decide) ?_
  refine lv_istore (lv' := [(5, .int 0), (4, .int r_2), (3, .int r_2), (0, .ref r0), (1, .ref r1), (2, .ref r2)]) hx hb dX5_premisesFor_9 hl (by decide) rfl (fun ls hl => ?_)
  have L11 : ∀ (N : Nat) (v4_3 : Int32) (v5_3 : Int32) (fx_3 : Nat → Int32) (ft_3 : Nat → Int32) (H_3 : Heap) (locs_3 : List Loc), jSt (dC, dI) B base G0 G0 EX5_premisesFor s.heap 0 0 [(r0, 7, 6, .ref xf), (r0, 7, 7, .ref xt)] [(xt, 291, 13, ca 1, ft_3), (xf, 290, 13, ca 1, fx_3), (r1, 280, n1, ca 1, ff)] [] H_3 locs_3 → (0 ≤ v4_3.toInt ∧ v4_3.toInt ≤ 81 + v5_3.toInt ∧ 0 ≤ v5_3.toInt ∧ v5_3.toInt ≤ 80) → (80 - v5_3.toInt : Int) < N → ∀ ls : Array Slot, lv_has ls 6 [(0, .ref r0), (1, .ref r1), (2, .ref r2), (3, .int r_2), (4, .int v4_3), (5, .int v5_3)] → W p l e R s m ([.ref r0, .ref r1, .ref r2] : List Value).toArray below meth c H_3 locs_3 0 0 Q (F0 m 11 ls []) := by
    intro N
    induction N with
    | zero => intro v4_3 v5_3 fx_3 ft_3 H_3 locs_3 hh_3  hi_3 hm; exact absurd hm (by omega)
    | succ N L11 =>
      intro v4_3 v5_3 fx_3 ft_3 H_3 locs_3 hh_3  hi_3 hm_3 ls hl
      obtain ⟨hi_3_0, hi_3_1, hi_3_2, hi_3_3⟩ := hi_3
      refine lv_iload hx hb dX5_premisesFor_11 (lv_at hl 5 rfl) ?_
      refine lv_bipush (v := 80) hx hb dX5_premisesFor_13 (by decide) ?_
      refine lv_icmp_ge (tgt := 71) hx hb dX5_premisesFor_15 (by decide) (fun c_4 => ?_) (fun c_4 => ?_)
      · skip
        have c_4' : v5_3.toInt ≥ 80 := jb_ge (rfl) ((by decide)) c_4
        refine lv_iconst (v := (-1)) hx hb dX5_premisesFor_71 (by decide) ?_
        rw [hQ]
        obtain ⟨v_5, hv_5, hh_6⟩ := hh_3.pin (C := RX5) (T := TX5) (N := 11) hB7 rfl (by decide) hg_r0 (i := 5) (by decide) rfl
        obtain ⟨source_7, nsource_7, rfl, hg_source_7, hn_source_7⟩ := hv_5
        exact W.iret (v := (-1)) hx hb hr (fun t ht hW => ⟨⟨(-1), (fx_3, ft_3, source_7, nsource_7), rfl, by (try dsimp only); refine ⟨by omega, by omega, by omega, fun h9 => ?_⟩; exact absurd h9 (by omega), ⟨⟨hh_6.rt (M1 := [(r0, 7, 5, .ref source_7)]) [0] rfl ht, by rw [ht]; exact hh_6.2.2.2.2.2.2.2.1.sub [1, 0] rfl⟩, hg_source_7⟩⟩, by rw [ht]; try exact hh_6.1.1, fun q h9 hq => by rw [ht]; try exact hh_6.1.2.1 q h9 hq⟩) hh_6.1.2.2 dX5_premisesFor_72
      · skip
        have c_4' : v5_3.toInt < 80 := jb_ge_n (rfl) ((by decide)) c_4
        refine lv_iload hx hb dX5_premisesFor_18 (lv_at hl 4 rfl) ?_
        refine lv_aload_n hx hb dX5_premisesFor_20 rfl (lv_at hl 1 rfl) ?_
        refine j7_len hx hb hK hh_3 hB280 1 rfl (by decide) hg_r1 (by omega) dX5_premisesFor_21 (fun z_8 hz_8 => ?_)
        refine lv_icmp_ge (tgt := 71) hx hb dX5_premisesFor_22 (by decide) (fun c_9 => ?_) (fun c_9 => ?_)
        · skip
          have c_9' : v4_3.toInt ≥ z_8.toInt := jb_ge (rfl) (rfl) c_9
          refine lv_iconst (v := (-1)) hx hb dX5_premisesFor_71 (by decide) ?_
          rw [hQ]
          obtain ⟨v_10, hv_10, hh_11⟩ := hh_3.pin (C := RX5) (T := TX5) (N := 11) hB7 rfl (by decide) hg_r0 (i := 5) (by decide) rfl
          obtain ⟨source_12, nsource_12, rfl, hg_source_12, hn_source_12⟩ := hv_10
          exact W.iret (v := (-1)) hx hb hr (fun t ht hW => ⟨⟨(-1), (fx_3, ft_3, source_12, nsource_12), rfl, by (try dsimp only); refine ⟨by omega, by omega, by omega, fun h9 => ?_⟩; exact absurd h9 (by omega), ⟨⟨hh_11.rt (M1 := [(r0, 7, 5, .ref source_12)]) [0] rfl ht, by rw [ht]; exact hh_11.2.2.2.2.2.2.2.1.sub [1, 0] rfl⟩, hg_source_12⟩⟩, by rw [ht]; try exact hh_11.1.1, fun q h9 hq => by rw [ht]; try exact hh_11.1.2.1 q h9 hq⟩) hh_11.1.2.2 dX5_premisesFor_72
        · skip
          have c_9' : v4_3.toInt < z_8.toInt := jb_ge_n (rfl) (rfl) c_9
          refine lv_aload_n hx hb dX5_premisesFor_25 rfl (lv_at hl 0 rfl) ?_
          refine lv_aload_n hx hb dX5_premisesFor_26 rfl (lv_at hl 1 rfl) ?_
          refine lv_iload hx hb dX5_premisesFor_27 (lv_at hl 4 rfl) ?_
          refine lv_iload_n hx hb dX5_premisesFor_29 rfl (lv_at hl 3 rfl) ?_
          refine lv_aload_n hx hb dX5_premisesFor_30 rfl (lv_at hl 2 rfl) ?_
          refine va_calli (A0 := jA base) (H0 := s.heap) (va_runV (As := [.ref r1, .int v4_3, .int r_2, .ref r2]) (rest := []) ⟨hx, hb, hml, hown, hts⟩ (uX5_matches l dC dI ca base B hB hAp hB7 hB101 hB280 hB290 hB291 G0 H_3 r0 r1 v4_3 r_2 r2 n1 n2 xf xt fx_3 ft_3) (cwV 4 hts (jgV (jWr_86 _ (List.mem_of_getElem? (i := 19) rfl)) (jWr_86 _ (List.mem_of_getElem? (i := 20) rfl)) (jWr_86 _ (List.mem_of_getElem? (i := 21) rfl)) (jWr_2 _ (List.mem_of_getElem? (i := 4) rfl)) (jWr_86 _ (List.mem_of_getElem? (i := 22) rfl))) rfl rfl rfl (by decide +kernel) ⟨by rw [← hR]; exact Nat.le_of_ble_eq_true rfl, by rw [← hR]; exact Nat.le_of_ble_eq_true rfl⟩) ⟨fun a U g mk q => by obtain ⟨q0, q1, q2, qK, q10, q11, q12, q13, q14, q15, q16, q17⟩ := q; exact ⟨q0, q1, q2, jG.calling g mk a qK, q10, q11, q12, q13, q14, q15, q16, q17⟩, hh_3.recv (C := RX5) (T := TX5) (N := 11) hB7 rfl (by decide) hg_r0 hK, fun U hU hW => ⟨rfl, hU, hh_3.2.1, hG.step hW hU hh_3.1, hg_r1, hg_r2, hg_r0, hg_xf, hg_xt, (hh_3.2.2.1.sub (L1 := [(r0, 7, 6, .ref xf), (r0, 7, 7, .ref xt)]) [0, 1] rfl), (hh_3.2.2.2.2.2.2.2.1.sub (L1 := [(xf, 290, 13, ca 1, fx_3), (xt, 291, 13, ca 1, ft_3)]) [1, 0] rfl), by first | omega | (refine ⟨?_, ?_, ?_, ?_, ?_⟩ <;> (first | omega | rfl | assumption | decide | exact Or.inl rfl | exact Or.inr rfl | (simp only; omega)))⟩⟩ rfl rfl hl.1 rfl (lv_room (Nat.le_of_ble_eq_true rfl)) dX5_premisesFor_31 ⟨Nat.zero_le _, Nat.zero_le _⟩) hh_3.1 (fun q _ h => h) (fun q h => h) (fun r_14 u_13 t_13 H_13 locs_13 ht_13 hvm_13 hr_14 hb_13 hz_13 hk_13 hS_13 => ?_)
          obtain ⟨fx2_13, ft2_13, qs_13, m_qs_13⟩ := u_13
          rw [ht_13] at hb_13
          obtain ⟨hb_13, hgp_13_0⟩ := hb_13
          obtain ⟨⟨hb_131, hb_132, hb_133, hb_134, hb_135⟩, hb_136⟩ := hb_13
          have hh_13 : jSt (dC, dI) B base G0 G0 EX5_premisesFor s.heap 0 0 [(r0, 7, 5, .ref qs_13), (r0, 7, 6, .ref xf), (r0, 7, 7, .ref xt)] [(xf, 290, 13, ca 1, fx2_13), (xt, 291, 13, ca 1, ft2_13), (r1, 280, n1, ca 1, ff)] [] H_13 locs_13 := ((hh_3.call hb_131 hb_132 hb_133 hb_134 hS_13 rfl (L1 := [(r0, 7, 6, .ref xf), (r0, 7, 7, .ref xt)]) [0, 1] rfl rfl (M1 := [(r1, 280, n1, ca 1, ff)]) [2] rfl rfl (I1 := []) [] rfl rfl).more hb_135).moreM hb_136
          clear hh_3 ht_13 hvm_13 hz_13 hk_13 hS_13 hb_131 hb_132 hb_133 hb_134 hb_135
          clear hb_136
          try simp only at hr_14
          obtain ⟨hr_14b, hr_14p⟩ := hr_14
          obtain ⟨hr_14p_0, hr_14p_1, hr_14p_2⟩ := hr_14p
          have hr_14' := jb_01 hr_14b
          refine lv_if_eq (tgt := 40) hx hb dX5_premisesFor_34 (by decide) (fun c_15 => ?_) (fun c_15 => ?_)
          · skip
            have c_15' : r_14.toInt = 0 := jb_eq (rfl) ((by decide)) c_15
            refine lv_aload_n hx hb dX5_premisesFor_40 rfl (lv_at hl 1 rfl) ?_
            refine lv_iload hx hb dX5_premisesFor_41 (lv_at hl 4 rfl) ?_
            refine j7_ialdM hx hb hK hh_13 hB280 1 rfl (by decide) hg_r1 (x := v4_3.toInt) (rfl) (by omega) (j := 2) rfl dX5_premisesFor_43 (fun z_16 ez_16 (hz_16 : -1 ≤ z_16.toInt) => ?_)
            have hqz_16 : z_16.toInt = jSo ff (v4_3.toInt) := by unfold jSo; rw [ez_16]
            refine lv_bipush (v := 15) hx hb dX5_premisesFor_44 (by decide) ?_
            refine lv_iand hx hb dX5_premisesFor_46 ?_
            refine lv_topi (fun z_17 ez_17 => ?_)
            have hz_17 : 0 ≤ z_17.toInt ∧ z_17.toInt ≤ 15 := by rw [ez_17]; exact jb_and z_16 (m := 15) (k := 4) (by decide) (by decide)
            have hbz_17 : z_17.toInt = z_16.toInt % 16 := by rw [ez_17, jb_and15]
            refine lv_iconst (v := 1) hx hb dX5_premisesFor_47 (by decide) ?_
            refine lv_icmp_eq (tgt := 53) hx hb dX5_premisesFor_48 (by decide) (fun c_18 => ?_) (fun c_18 => ?_)
            · skip
              have c_18' : z_17.toInt = 1 := jb_eq (rfl) ((by decide)) c_18
              refine lv_aload_n hx hb dX5_premisesFor_53 rfl (lv_at hl 1 rfl) ?_
              refine lv_iload hx hb dX5_premisesFor_54 (lv_at hl 4 rfl) ?_
              refine lv_iconst (v := 1) hx hb dX5_premisesFor_56 (by decide) ?_
              refine lv_iadd hx hb dX5_premisesFor_57 ?_
              refine lv_topi (fun z_19 ez_19 => ?_)
              have hz_19 : z_19.toInt = v4_3.toInt + 1 := by rw [ez_19]; exact jb_iadd2 (rfl) ((by decide)) (by omega)
              refine lv_aload_n hx hb dX5_premisesFor_58 rfl (lv_at hl 1 rfl) ?_
              refine j7_len hx hb hK hh_13 hB280 1 rfl (by decide) hg_r1 (by omega) dX5_premisesFor_59 (fun z_20 hz_20 => ?_)
              refine va_calli (A0 := jA base) (H0 := s.heap) (va_runSN (As := [.ref r1, .int z_19, .int z_20]) (rest := []) ⟨hx, hb, hml, hown, hts⟩ (uX11_endOfB l dC dI ca base B hB hAp hB280 G0 H_13 r1 z_19 z_20 n1) ⟨va_cnB 3 hts (jgW (jWr_32 _ (List.mem_of_getElem? (i := 4) rfl))) rfl rfl rfl (hG.2.2.1 RX5 183 yX11_endOf "ProofServer" (List.mem_of_getElem? (i := 1460) (by decide +kernel))) (htw (.initialized RX11) (jWr_1 _ (List.mem_of_getElem? (i := 2) rfl))) (by decide +kernel) ⟨by rw [← hR]; exact Nat.le_of_ble_eq_true rfl, by rw [← hR]; exact Nat.le_of_ble_eq_true rfl⟩, htw (.static yX11_endOf) (jWr_32 _ (List.mem_of_getElem? (i := 3) rfl)), trivial⟩ ⟨fun a U g mk q => by obtain ⟨q0, q1, q2, qK, q10, q11, q12⟩ := q; exact ⟨q0, q1, q2, jG.calling g mk a qK, q10, q11, q12⟩, fun U hU hW => ⟨rfl, hU, hh_13.2.1, hG.step hW hU hh_13.1, hg_r1, jP.nil, by first | omega | (refine ⟨?_, ?_, ?_⟩ <;> (first | omega | rfl | assumption | decide | exact Or.inl rfl | exact Or.inr rfl | (simp only; omega)))⟩⟩ rfl rfl hl.1 rfl (lv_room (Nat.le_of_ble_eq_true rfl)) dX5_premisesFor_60 ⟨Nat.zero_le _, Nat.zero_le _⟩) hh_13.1 (fun q _ h => h) (fun q h => h) (fun r_22 u_21 t_21 H_21 locs_21 ht_21 hvm_21 hr_22 hb_21 hz_21 hk_21 hS_21 => ?_)
              rw [ht_21] at hb_21
              obtain ⟨hb_211, hb_212, hb_213, hb_214, hb_215⟩ := hb_21
              have hh_21 : jSt (dC, dI) B base G0 G0 EX5_premisesFor s.heap 0 0 [(r0, 7, 5, .ref qs_13), (r0, 7, 6, .ref xf), (r0, 7, 7, .ref xt)] [(xf, 290, 13, ca 1, fx2_13), (xt, 291, 13, ca 1, ft2_13), (r1, 280, n1, ca 1, ff)] [] H_21 locs_21 := ((hh_13.call hb_211 hb_212 hb_213 hb_214 hS_21 rfl (L1 := [(r0, 7, 5, .ref qs_13), (r0, 7, 6, .ref xf), (r0, 7, 7, .ref xt)]) [0, 1, 2] rfl rfl (M1 := [(xf, 290, 13, ca 1, fx2_13), (xt, 291, 13, ca 1, ft2_13), (r1, 280, n1, ca 1, ff)]) [0, 1, 2] rfl rfl (I1 := []) [] rfl rfl).more hb_215)
              clear hh_13 ht_21 hvm_21 hz_21 hk_21 hS_21 hb_211 hb_212 hb_213 hb_214 hb_215
              obtain ⟨hr_22_0, hr_22_1⟩ := hr_22
              refine lv_istore (lv' := [(4, .int r_22), (0, .ref r0), (1, .ref r1), (2, .ref r2), (3, .int r_2), (5, .int v5_3)]) hx hb dX5_premisesFor_63 hl (by decide) rfl (fun ls hl => ?_)
              obtain ⟨z_23, ez_23⟩ : ∃ y : Int32, y = v5_3 + 1 := ⟨_, rfl⟩
              refine lv_iinc (v := z_23) (lv' := [(5, .int z_23), (4, .int r_22), (0, .ref r0), (1, .ref r1), (2, .ref r2), (3, .int r_2)]) hx hb dX5_premisesFor_65 hl (k := 5) rfl (by rw [ez_23]; rfl) (by decide) rfl (fun ls hl => ?_)
              have hz_23 : z_23.toInt = v5_3.toInt + 1 := by rw [ez_23]; exact jb_iadd2 (rfl) (by decide) (by omega)
              refine lv_goto (tgt := 11) hx hb dX5_premisesFor_68 (by decide) ?_
              exact L11 r_22 z_23 fx2_13 ft2_13 _ _ (hh_21.sub (L1 := [(r0, 7, 6, .ref xf), (r0, 7, 7, .ref xt)]) [1, 2] rfl (M1 := [(xt, 291, 13, ca 1, ft2_13), (xf, 290, 13, ca 1, fx2_13), (r1, 280, n1, ca 1, ff)]) [1, 0, 2] rfl (I1 := []) [] rfl) (by first | omega | (refine ⟨?_, ?_, ?_, ?_⟩ <;> (first | omega | rfl | assumption | decide | exact Or.inl rfl | exact Or.inr rfl | (simp only; omega)))) (by omega) _ (lv_sub hl [2, 3, 4, 5, 1, 0] rfl)
            · skip
              have c_18' : z_17.toInt ≠ 1 := jb_eq_n (rfl) ((by decide)) c_18
              refine lv_iconst (v := (-1)) hx hb dX5_premisesFor_51 (by decide) ?_
              rw [hQ]
              exact W.iret (v := (-1)) hx hb hr (fun t ht hW => ⟨⟨(-1), (fx2_13, ft2_13, qs_13, m_qs_13), rfl, by (try dsimp only); refine ⟨by omega, by omega, by omega, fun h9 => ?_⟩; exact absurd h9 (by omega), ⟨⟨hh_13.rt (M1 := [(r0, 7, 5, .ref qs_13)]) [0] rfl ht, by rw [ht]; exact hh_13.2.2.2.2.2.2.2.1.sub [0, 1] rfl⟩, hgp_13_0⟩⟩, by rw [ht]; try exact hh_13.1.1, fun q h9 hq => by rw [ht]; try exact hh_13.1.2.1 q h9 hq⟩) hh_13.1.2.2 dX5_premisesFor_52
          · skip
            have c_15' : r_14.toInt ≠ 0 := jb_eq_n (rfl) ((by decide)) c_15
            refine lv_iload hx hb dX5_premisesFor_37 (lv_at hl 5 rfl) ?_
            rw [hQ]
            exact W.iret (v := v5_3) hx hb hr (fun t ht hW => ⟨⟨v5_3, (fx2_13, ft2_13, qs_13, m_qs_13), rfl, by (try dsimp only); refine ⟨by omega, by omega, by omega, fun _ => ?_⟩; exact jTf.of hr_14p_0 (hr_14p_2 (by omega)) (by omega) (by omega) (by omega) hr_2_3, ⟨⟨hh_13.rt (M1 := [(r0, 7, 5, .ref qs_13)]) [0] rfl ht, by rw [ht]; exact hh_13.2.2.2.2.2.2.2.1.sub [0, 1] rfl⟩, hgp_13_0⟩⟩, by rw [ht]; try exact hh_13.1.1, fun q h9 hq => by rw [ht]; try exact hh_13.1.2.1 q h9 hq⟩) hh_13.1.2.2 dX5_premisesFor_39
  exact L11 (80 - (0 : Int32).toInt : Int).toNat.succ r_2 0 fx ft _ _ (hh_1.sub (L1 := [(r0, 7, 6, .ref xf), (r0, 7, 7, .ref xt)]) [0, 1] rfl (M1 := [(xt, 291, 13, ca 1, ft), (xf, 290, 13, ca 1, fx), (r1, 280, n1, ca 1, ff)]) [2, 1, 0] rfl (I1 := []) [] rfl) (by first | omega | (refine ⟨?_, ?_, ?_, ?_⟩ <;> (first | omega | rfl | assumption | decide | exact Or.inl rfl | exact Or.inr rfl | (simp only; omega)))) (by omega) _ (lv_sub hl [3, 4, 5, 2, 1, 0] rfl)
set_option maxHeartbeats 4000000 in
set_option maxRecDepth 20000 in
theorem uX5_addPremises (l : Launch) (dC : Nat → ClassId) (dI : Nat → Nat → Nat) (ca : Nat → ClassId) (base : Nat) (B : jF) (hB : jBok B) (hAp : jAp (dC, dI)) (hB5 : ∀ n G a H, B 5 n G a H ↔ jOb (dC, dI) 5 4 (F5 n G) a H) (hB7 : ∀ n G a H, B 7 n G a H ↔ jOb (dC, dI) 7 11 (F7 n G) a H) (hB101 : ∀ n G a H, B 101 n G a H ↔ jAr (dC, dI) (ca 1) (fun j z => True) n a H) (hB211 : ∀ n G a H, B 211 n G a H ↔ jAq (dC, dI) (ca 7) (jQh) n G a H) (hB280 : ∀ n G a H, B 280 n G a H ↔ jAr (dC, dI) (ca 1) (fun j z => -1 ≤ z.toInt) n a H) (hB290 : ∀ n G a H, B 290 n G a H ↔ jAr (dC, dI) (ca 1) (fun j z => 0 ≤ z.toInt ∧ z.toInt ≤ 3000) n a H) (hB291 : ∀ n G a H, B 291 n G a H ↔ jAr (dC, dI) (ca 1) (fun j z => 0 ≤ z.toInt ∧ z.toInt ≤ 3000) n a H) (hB313 : ∀ n G a H, B 313 n G a H ↔ jAq (dC, dI) (ca 8) (jQk 280 80) n G a H) (G0 : jT) (H0 : Heap) (r0 : Nat) (r1 : Nat) (r2 : Nat) (a3 : Int32) (n1 : Nat) (n2 : Nat) (so : Nat) (n_so : Nat) (xf : Nat) (xt : Nat) (pf : Int32) (ff : Nat → Int32) (fx : Nat → Int32) (ft : Nat → Int32) (LC LS : Nat) : Met l yX5_addPremises (jw yX5_addPremises cX5_addPremises 8 (some .int)) ({ frames := 3, cells := LC - H0.size, slots := LS - jTot H0, locals := 90 }) (va_Pc [.ref r0, .ref r1, .ref r2, .int a3] (fun U => U.heap = H0 ∧ jX B base G0 [] H0 ∧ jG dC dI ca base U ∧ jK2 dC dI ca U ∧ G0 r0 = some (7, 0) ∧ G0 r1 = some (5, n1) ∧ G0 r2 = some (280, n2) ∧ G0 so = some (280, n_so) ∧ G0 xf = some (290, 13) ∧ G0 xt = some (291, 13) ∧ jP (dC, dI) G0 H0 [(r0, 7, 5, .ref so), (r0, 7, 6, .ref xf), (r0, 7, 7, .ref xt), (r0, 7, 10, .int pf)] ∧ jMc (dC, dI) G0 H0 [(r2, 280, n2, ca 1, ff), (xf, 290, 13, ca 1, fx), (xt, 291, 13, ca 1, ft)] ∧ jIs (dC, dI) G0 H0 [(jFg, jFr dC dI ca G0 r0)] ∧ H0.size + 12 ≤ LC ∧ jTot H0 + 504 ≤ LS ∧ jTf ff n2 fx ft n_so ∧ 0 ≤ pf.toInt ∧ pf.toInt ≤ 100 ∧ n1 % 10 = 1 ∧ n2 ≤ 80 ∧ n_so ≤ 3000)) (va_Qi (S := Int32 × jT) (fun r u => (pf.toInt ≤ u.1.toInt ∧ u.1.toInt ≤ pf.toInt + 6)) (fun u t => jRa (dC, dI) B base G0 u.2 EX5_addPremises H0 (12) (504) [(r0, 7, 10, .int u.1)] t.heap ∧ (jNk [0, 1, 2, 3, 4, 6, 7, 8, 9, 10, 11, 12, 13, 14, 15, 16, 17, 175]) G0 u.2 ∧ jIs (dC, dI) u.2 t.heap [(jFg, jFr dC dI ca u.2 r0)]) (jA base)) (LC - H0.size) (LS - jTot H0) (jA base) := by
  refine Met.ofW (cc := cX5_addPremises) (maxL := 8) (ret := (some .int)) (by decide) rfl ?_
  intro p e s m args below meth c s₁ Bd hml hv
  obtain ⟨rfl, hH0, hX, hG, hK2, hg_r0, hg_r1, hg_r2, hg_so, hg_xf, hg_xt, hP0, hM0, hI0, hLC0, hLS0, hp0, hp1, hp2, hp3, hp4, hp5⟩ := hv
  have hK := hG.1
  have hx := Bd.exec
  have hb := Bd.bytes
  have hr := Bd.returns
  have hts := atoms_spec (ws := (jw yX5_addPremises cX5_addPremises 8 (some .int))) Bd.pre
  have htw : ∀ w ∈ jWl, w.before _ s = true := fun w h => hts w (List.mem_cons_of_mem _ h)
  have hown : s.vm.findClass RX5 = some m.cls := findClass_of_methodNamed Bd.named
  have hlocks := Bd.notSynchronized
  obtain ⟨Q, hQ⟩ : ∃ Q, Q = MQ below (va_Qi (S := Int32 × jT) (fun r u => (pf.toInt ≤ u.1.toInt ∧ u.1.toInt ≤ pf.toInt + 6)) (fun u t => jRa (dC, dI) B base G0 u.2 EX5_addPremises H0 (12) (504) [(r0, 7, 10, .int u.1)] t.heap ∧ (jNk [0, 1, 2, 3, 4, 6, 7, 8, 9, 10, 11, 12, 13, 14, 15, 16, 17, 175]) G0 u.2 ∧ jIs (dC, dI) u.2 t.heap [(jFg, jFr dC dI ca u.2 r0)]) (jA base)) ([.ref r0, .ref r1, .ref r2, .int a3] : List Value).toArray s (LC - H0.size) (LS - jTot H0) (jA base) := ⟨_, rfl⟩
  rw [← hQ]
  have hl := lv_entry ([.ref r0, .ref r1, .ref r2, .int a3]) (n := 8) (Nat.le_of_ble_eq_true rfl)
  rw [lg_entry_eq]
  generalize (lg_sl ([.ref r0, .ref r1, .ref r2, .int a3]) ++ List.replicate (8 - (lg_sl ([.ref r0, .ref r1, .ref r2, .int a3])).length) Slot.unset).toArray = ls at hl ⊢
  have hl : lv_has ls 8 [(0, .ref r0), (1, .ref r1), (2, .ref r2), (3, .int a3)] := hl
  generalize hR : (headSpec (jw yX5_addPremises cX5_addPremises 8 (some .int)) ({ frames := 3, cells := LC - H0.size, slots := LS - jTot H0, locals := 90 })).room = R
  subst hH0
  have hh : jSt (dC, dI) B base G0 G0 EX5_addPremises s.heap 0 0 [(r0, 7, 5, .ref so), (r0, 7, 6, .ref xf), (r0, 7, 7, .ref xt), (r0, 7, 10, .int pf)] [(r2, 280, n2, ca 1, ff), (xf, 290, 13, ca 1, fx), (xt, 291, 13, ca 1, ft)] [(jFg, jFr dC dI ca G0 r0)] s.heap [] := jSt.start hX hP0 hM0 hI0
  clear hX hP0
  have hk0 : (0 : Int32).toInt = 0 := by decide
  have hk1 : (1 : Int32).toInt = 1 := by decide
  have hk6 : (6 : Int32).toInt = 6 := by decide
  have hk9 : (9 : Int32).toInt = 9 := by decide
  have hrg_a3 := jb_rng a3
  have hbs : base ≤ s.heap.size := Nat.le_of_lt (Nat.lt_of_le_of_lt (hh.ab hg_r0).1 (hh.ab hg_r0).2)
  have hRc : R.cells = LC - s.heap.size := by rw [← hR]; rfl
  have hRs : R.slots = LS - jTot s.heap := by rw [← hR]; rfl
  refine lv_iload_n hx hb dX5_addPremises_0 rfl (lv_at hl 3 rfl) ?_
  refine lv_bipush (v := 6) hx hb dX5_addPremises_1 (by decide) ?_
  refine lv_icmp_le (tgt := 9) hx hb dX5_addPremises_3 (by decide) (fun c_1 => ?_) (fun c_1 => ?_)
  · skip
    have c_1' : a3.toInt ≤ 6 := jb_le (rfl) ((by decide)) c_1
    refine lv_aload_n hx hb dX5_addPremises_9 rfl (lv_at hl 2 rfl) ?_
    have hsz_2 := hh.2.2.2.2.2.1
    have htt_2 := hh.2.2.2.2.2.2.1
    refine W.room (fun hrc_2 hrs_2 => ?_)
    refine va_calli (A0 := jA base) (H0 := s.heap) (va_runS (As := [.ref r2]) (rest := []) ⟨hx, hb, hml, hown, hts⟩ (uX5_leadingBoundB l dC dI ca base B hB hAp hB280 G0 s.heap r2 n2 ff) (va_cwS 1 hts (jgS (jWr_86 _ (List.mem_of_getElem? (i := 16) rfl)) (jWr_86 _ (List.mem_of_getElem? (i := 17) rfl)) (jWr_2 _ (List.mem_of_getElem? (i := 4) rfl)) (jWr_86 _ (List.mem_of_getElem? (i := 18) rfl))) rfl rfl rfl (by decide +kernel) ⟨by rw [← hR]; exact Nat.le_of_ble_eq_true rfl, by rw [← hR]; exact Nat.le_of_ble_eq_true rfl⟩) ⟨fun a U g mk q => by obtain ⟨q0, q1, q2, qK, q10, q11, q12, q13⟩ := q; exact ⟨q0, q1, q2, jG.calling g mk a qK, q10, q11, q12, q13⟩, fun U hU hW => ⟨rfl, hU, hh.2.1, hG.step hW hU hh.1, hg_r2, jP.nil, (hh.2.2.2.2.2.2.2.1.sub (L1 := [(r2, 280, n2, ca 1, ff)]) [0] rfl), by first | omega | rfl | assumption | decide | exact Or.inl rfl | exact Or.inr rfl | (simp only; omega)⟩⟩ rfl rfl hl.1 rfl (lv_room (Nat.le_of_ble_eq_true rfl)) dX5_addPremises_10 ⟨by rw [hRc]; show _ + 0 ≤ _; omega, by rw [hRs]; show _ + 0 ≤ _; omega⟩) hh.1 (fun q _ h => h) (fun q h => h) (fun r_3 u_2 t_2 H_2 locs_2 ht_2 hvm_2 hr_3 hb_2 hz_2 hk_2 hS_2 => ?_)
    rw [ht_2] at hb_2
    obtain ⟨hb_21, hb_22, hb_23, hb_24, hb_25⟩ := hb_2
    have hh_2 : jSt (dC, dI) B base G0 G0 EX5_addPremises s.heap 0 0 [(r0, 7, 5, .ref so), (r0, 7, 6, .ref xf), (r0, 7, 7, .ref xt), (r0, 7, 10, .int pf)] [(r2, 280, n2, ca 1, ff), (xf, 290, 13, ca 1, fx), (xt, 291, 13, ca 1, ft)] [(jFg, jFr dC dI ca G0 r0)] H_2 locs_2 := ((hh.call hb_21 hb_22 hb_23 hb_24 hS_2 rfl (L1 := [(r0, 7, 5, .ref so), (r0, 7, 6, .ref xf), (r0, 7, 7, .ref xt), (r0, 7, 10, .int pf)]) [0, 1, 2, 3] rfl rfl (M1 := [(r2, 280, n2, ca 1, ff), (xf, 290, 13, ca 1, fx), (xt, 291, 13, ca 1, ft)]) [0, 1, 2] rfl rfl (I1 := [(jFg, jFr dC dI ca G0 r0)]) [0] rfl rfl).more hb_25)
    clear hh ht_2 hvm_2 hz_2 hk_2 hS_2 hb_21 hb_22 hb_23 hb_24 hb_25
    obtain ⟨hr_3_0, hr_3_1, hr_3_2, hr_3_3⟩ := hr_3
    refine lv_istore (lv' := [(4, .int r_3), (0, .ref r0), (1, .ref r1), (2, .ref r2), (3, .int a3)]) hx hb dX5_addPremises_13 hl (by decide) rfl (fun ls hl => ?_)
    refine lv_iload hx hb dX5_addPremises_15 (lv_at hl 0 rfl) ?_
    refine lv_istore (lv' := [(5, .int r_3), (4, .int r_3), (0, .ref r0), (1, .ref r1), (2, .ref r2), (3, .int a3)]) hx hb dX5_addPremises_17 hl (by decide) rfl (fun ls hl => ?_)
    refine lv_iconst (v := 0) hx hb dX5_addPremises_19 (by decide) ?_
    refine lv_istore (lv' := [(6, .int 0), (5, .int r_3), (4, .int r_3), (0, .ref r0), (1, .ref r1), (2, .ref r2), (3, .int a3)]) hx hb dX5_addPremises_20 hl (by decide) rfl (fun ls hl => ?_)
    have L22 : ∀ (N : Nat) (Gx_4 : jT) (zcx_4 : Nat) (zsx_4 : Nat) (v5_4 : Int32) (v6_4 : Int32) (wf_4 : Int32) (H_4 : Heap) (locs_4 : List Loc), jSt (dC, dI) B base G0 Gx_4 EX5_addPremises s.heap zcx_4 zsx_4 [(r0, 7, 10, .int wf_4), (r0, 7, 5, .ref so), (r0, 7, 6, .ref xf), (r0, 7, 7, .ref xt)] [(r2, 280, n2, ca 1, ff), (xf, 290, 13, ca 1, fx), (xt, 291, 13, ca 1, ft)] [(jFg, jFr dC dI ca Gx_4 r0)] H_4 locs_4 → (jNk [0, 1, 2, 3, 4, 6, 7, 8, 9, 10, 11, 12, 13, 14, 15, 16, 17, 175]) G0 Gx_4 → jLe G0 Gx_4 → (0 ≤ v6_4.toInt ∧ v6_4.toInt ≤ 6 ∧ 0 ≤ v5_4.toInt ∧ v5_4.toInt ≤ 81 + v6_4.toInt ∧ wf_4.toInt = pf.toInt + v6_4.toInt ∧ zcx_4 ≤ 2 * v6_4.toInt ∧ zsx_4 ≤ 84 * v6_4.toInt) → (6 - v6_4.toInt : Int) < N → ∀ ls : Array Slot, lv_has ls 8 [(0, .ref r0), (1, .ref r1), (2, .ref r2), (3, .int a3), (4, .int r_3), (5, .int v5_4), (6, .int v6_4)] → W p l e R s m ([.ref r0, .ref r1, .ref r2, .int a3] : List Value).toArray below meth c H_4 locs_4 zcx_4 zsx_4 Q (F0 m 22 ls []) := by
      intro N
      induction N with
      | zero => intro Gx_4 zcx_4 zsx_4 v5_4 v6_4 wf_4 H_4 locs_4 hh_4 hN_4 hle_4 hi_4 hm; exact absurd hm (by omega)
      | succ N L22 =>
        intro Gx_4 zcx_4 zsx_4 v5_4 v6_4 wf_4 H_4 locs_4 hh_4 hN_4 hle_4 hi_4 hm_4 ls hl
        have hg_5 := hle_4 _ _ hg_r0
        have hg_6 := hle_4 _ _ hg_r1
        have hg_7 := hle_4 _ _ hg_r2
        have hg_8 := hle_4 _ _ hg_so
        have hg_9 := hle_4 _ _ hg_xf
        have hg_10 := hle_4 _ _ hg_xt
        obtain ⟨hi_4_0, hi_4_1, hi_4_2, hi_4_3, hi_4_4, hi_4_5, hi_4_6⟩ := hi_4
        refine lv_iload hx hb dX5_addPremises_22 (lv_at hl 6 rfl) ?_
        refine lv_iload_n hx hb dX5_addPremises_24 rfl (lv_at hl 3 rfl) ?_
        refine lv_icmp_ge (tgt := 72) hx hb dX5_addPremises_25 (by decide) (fun c_11 => ?_) (fun c_11 => ?_)
        · skip
          have c_11' : v6_4.toInt ≥ a3.toInt := jb_ge (rfl) (rfl) c_11
          refine lv_iconst (v := 0) hx hb dX5_addPremises_72 (by decide) ?_
          have hsz_12 := hh_4.2.2.2.2.2.1
          have htt_12 := hh_4.2.2.2.2.2.2.1
          refine W.room (fun hrc_12 hrs_12 => ?_)
          refine W.widen (k := LC - s.heap.size) (n := LS - jTot s.heap) (by omega) (by omega) ?_
          rw [hQ]
          exact W.iret (v := 0) hx hb hr (fun t ht hW => ⟨⟨0, (wf_4, Gx_4), rfl, by (try dsimp only); exact ⟨(by first | omega | rfl | assumption | fail), (by first | omega | rfl | assumption | fail)⟩, ⟨hh_4.ra (by first | omega | (simp only; omega)) (by first | omega | (simp only; omega)) (M1 := [(r0, 7, 10, .int wf_4)]) [0] rfl ht, hN_4, by rw [ht]; exact hh_4.2.2.2.2.2.2.2.2.sub (L1 := [(jFg, jFr dC dI ca Gx_4 r0)]) [0] rfl⟩⟩, by rw [ht]; try exact hh_4.1.1, fun q h9 hq => by rw [ht]; try exact hh_4.1.2.1 q h9 hq⟩) hh_4.1.2.2 dX5_addPremises_73
        · skip
          have c_11' : v6_4.toInt < a3.toInt := jb_ge_n (rfl) (rfl) c_11
          refine lv_aload_n hx hb dX5_addPremises_28 rfl (lv_at hl 2 rfl) ?_
          refine lv_iload hx hb dX5_addPremises_29 (lv_at hl 5 rfl) ?_
          refine lv_iconst (v := 1) hx hb dX5_addPremises_31 (by decide) ?_
          refine lv_iadd hx hb dX5_addPremises_32 ?_
          refine lv_topi (fun z_13 ez_13 => ?_)
          have hz_13 : z_13.toInt = v5_4.toInt + 1 := by rw [ez_13]; exact jb_iadd2 (rfl) ((by decide)) (by omega)
          refine lv_aload_n hx hb dX5_addPremises_33 rfl (lv_at hl 2 rfl) ?_
          refine j7_len hx hb hK hh_4 hB280 1 rfl (by decide) hg_7 (by omega) dX5_addPremises_34 (fun z_14 hz_14 => ?_)
          have hsz_15 := hh_4.2.2.2.2.2.1
          have htt_15 := hh_4.2.2.2.2.2.2.1
          refine W.room (fun hrc_15 hrs_15 => ?_)
          refine va_calli (A0 := jA base) (H0 := s.heap) (va_runSN (As := [.ref r2, .int z_13, .int z_14]) (rest := []) ⟨hx, hb, hml, hown, hts⟩ (uX11_endOfB l dC dI ca base B hB hAp hB280 Gx_4 H_4 r2 z_13 z_14 n2) ⟨va_cnB 3 hts (jgW (jWr_32 _ (List.mem_of_getElem? (i := 4) rfl))) rfl rfl rfl (hG.2.2.1 RX5 183 yX11_endOf "ProofServer" (List.mem_of_getElem? (i := 1460) (by decide +kernel))) (htw (.initialized RX11) (jWr_1 _ (List.mem_of_getElem? (i := 2) rfl))) (by decide +kernel) ⟨by rw [← hR]; exact Nat.le_of_ble_eq_true rfl, by rw [← hR]; exact Nat.le_of_ble_eq_true rfl⟩, htw (.static yX11_endOf) (jWr_32 _ (List.mem_of_getElem? (i := 3) rfl)), trivial⟩ ⟨fun a U g mk q => by obtain ⟨q0, q1, q2, qK, q10, q11, q12⟩ := q; exact ⟨q0, q1, q2, jG.calling g mk a qK, q10, q11, q12⟩, fun U hU hW => ⟨rfl, hU, hh_4.2.1, hG.step hW hU hh_4.1, hg_7, jP.nil, by first | omega | (refine ⟨?_, ?_, ?_⟩ <;> (first | omega | rfl | assumption | decide | exact Or.inl rfl | exact Or.inr rfl | (simp only; omega)))⟩⟩ rfl rfl hl.1 rfl (lv_room (Nat.le_of_ble_eq_true rfl)) dX5_addPremises_35 ⟨by rw [hRc]; show _ + 0 ≤ _; omega, by rw [hRs]; show _ + 0 ≤ _; omega⟩) hh_4.1 (fun q _ h => h) (fun q h => h) (fun r_16 u_15 t_15 H_15 locs_15 ht_15 hvm_15 hr_16 hb_15 hz_15 hk_15 hS_15 => ?_)
          rw [ht_15] at hb_15
          obtain ⟨hb_151, hb_152, hb_153, hb_154, hb_155⟩ := hb_15
          have hh_15 : jSt (dC, dI) B base G0 Gx_4 EX5_addPremises s.heap zcx_4 zsx_4 [(r0, 7, 10, .int wf_4), (r0, 7, 5, .ref so), (r0, 7, 6, .ref xf), (r0, 7, 7, .ref xt)] [(r2, 280, n2, ca 1, ff), (xf, 290, 13, ca 1, fx), (xt, 291, 13, ca 1, ft)] [(jFg, jFr dC dI ca Gx_4 r0)] H_15 locs_15 := ((hh_4.call hb_151 hb_152 hb_153 hb_154 hS_15 rfl (L1 := [(r0, 7, 10, .int wf_4), (r0, 7, 5, .ref so), (r0, 7, 6, .ref xf), (r0, 7, 7, .ref xt)]) [0, 1, 2, 3] rfl rfl (M1 := [(r2, 280, n2, ca 1, ff), (xf, 290, 13, ca 1, fx), (xt, 291, 13, ca 1, ft)]) [0, 1, 2] rfl rfl (I1 := [(jFg, jFr dC dI ca Gx_4 r0)]) [0] rfl rfl).more hb_155)
          clear hh_4 ht_15 hvm_15 hz_15 hk_15 hS_15 hb_151 hb_152 hb_153 hb_154 hb_155
          obtain ⟨hr_16_0, hr_16_1⟩ := hr_16
          refine lv_istore (lv' := [(7, .int r_16), (0, .ref r0), (1, .ref r1), (2, .ref r2), (3, .int a3), (4, .int r_3), (5, .int v5_4), (6, .int v6_4)]) hx hb dX5_addPremises_38 hl (by decide) rfl (fun ls hl => ?_)
          refine lv_aload_n hx hb dX5_addPremises_40 rfl (lv_at hl 1 rfl) ?_
          refine lv_aload_n hx hb dX5_addPremises_41 rfl (lv_at hl 2 rfl) ?_
          refine lv_aload_n hx hb dX5_addPremises_42 rfl (lv_at hl 1 rfl) ?_
          refine lv_aload_n hx hb dX5_addPremises_43 rfl (lv_at hl 3 rfl) ?_
          refine lv_iload hx hb dX5_addPremises_44 (lv_at hl 6 rfl) ?_
          refine lv_iconst (v := 1) hx hb dX5_addPremises_46 (by decide) ?_
          refine lv_iadd hx hb dX5_addPremises_47 ?_
          refine lv_topi (fun z_17 ez_17 => ?_)
          have hz_17 : z_17.toInt = v5_4.toInt + 1 := by rw [ez_17]; exact jb_iadd2 (rfl) ((by decide)) (by omega)
          refine lv_iload hx hb dX5_addPremises_48 (lv_at hl 0 rfl) ?_
          refine lv_iload hx hb dX5_addPremises_50 (lv_at hl 5 rfl) ?_
          have hsz_18 := hh_15.2.2.2.2.2.1
          have htt_18 := hh_15.2.2.2.2.2.2.1
          refine W.room (fun hrc_18 hrs_18 => ?_)
          refine j_callx (A0 := jA base) (H0 := s.heap) (va_runV (As := [.ref r2, .int z_17, .int r_16, .int r_3]) (rest := [.ref r1, .ref r0]) ⟨hx, hb, hml, hown, hts⟩ (uX5_instance l dC dI ca base B hB hAp hB7 hB280 hB290 hB291 Gx_4 H_15 r0 r2 z_17 r_16 r_3 n2 so n_so xf xt ff fx ft LC LS) (cwV 4 hts (jgV (jWr_85 _ (List.mem_of_getElem? (i := 21) rfl)) (jWr_85 _ (List.mem_of_getElem? (i := 22) rfl)) (jWr_85 _ (List.mem_of_getElem? (i := 23) rfl)) (jWr_2 _ (List.mem_of_getElem? (i := 4) rfl)) (jWr_86 _ (List.mem_of_getElem? (i := 0) rfl))) rfl rfl rfl (by decide +kernel) ⟨by rw [← hR]; exact Nat.le_of_ble_eq_true rfl, by rw [← hR]; exact Nat.le_of_ble_eq_true rfl⟩) ⟨fun a U g mk q => by obtain ⟨q0, q1, q2, qK, q10, q11, q12, q13, q14, q15, q16, q17⟩ := q; exact ⟨q0, q1, q2, jG.calling g mk a qK, q10, q11, q12, q13, q14, q15, q16, q17⟩, hh_15.recv (C := RX5) (T := TX5) (N := 11) hB7 rfl (by decide) hg_5 hK, fun U hU hW => ⟨rfl, hU, hh_15.2.1, hG.step hW hU hh_15.1, hg_7, hg_5, hg_8, hg_9, hg_10, (hh_15.2.2.1.sub (L1 := [(r0, 7, 5, .ref so), (r0, 7, 6, .ref xf), (r0, 7, 7, .ref xt)]) [1, 2, 3] rfl), (hh_15.2.2.2.2.2.2.2.1.sub (L1 := [(r2, 280, n2, ca 1, ff), (xf, 290, 13, ca 1, fx), (xt, 291, 13, ca 1, ft)]) [0, 1, 2] rfl), (by omega), (by omega), ⟨(by first | assumption | exact hp0 _ (by omega) (by omega) (by omega) hr_3_3 | omega), (by first | omega | rfl | assumption | exact hp0 _ (by omega) (by omega) (by omega) hr_3_3), (by first | omega | rfl | assumption | exact hp0 _ (by omega) (by omega) (by omega) hr_3_3), (by first | omega | rfl | assumption | exact hp0 _ (by omega) (by omega) (by omega) hr_3_3), (by first | omega | rfl | assumption | exact hp0 _ (by omega) (by omega) (by omega) hr_3_3), (by first | omega | rfl | assumption | exact hp0 _ (by omega) (by omega) (by omega) hr_3_3)⟩⟩⟩ rfl rfl hl.1 rfl (lv_room (Nat.le_of_ble_eq_true rfl)) dX5_addPremises_52 ⟨by rw [hRc]; omega, by rw [hRs]; omega⟩) hh_15.1 (fun q _ h => h) (fun q h => h) (fun r_19 u_18 t_18 H_18 locs_18 ht_18 hvm_18 hr_19 hb_18 hz_18 hk_18 hS_18 => ?_)
          rw [ht_18] at hb_18
          obtain ⟨m_ret_18, G_18⟩ := u_18
          simp only at hb_18
          obtain ⟨⟨hb_181, hb_182, hb_183, hb_184, hb_185, hb_186⟩, hN_18, hbK_18⟩ := hb_18
          have hN_18 : (jNk [0, 1, 2, 3, 4, 6, 7, 8, 9, 10, 11, 12, 13, 14, 15, 16, 17, 175]) Gx_4 G_18 := hN_18.sub (by decide)
          have hh_18 : jSt (dC, dI) B base G0 G_18 EX5_addPremises s.heap (zcx_4 + (1)) (zsx_4 + (80)) [(r0, 7, 10, .int wf_4), (r0, 7, 5, .ref so), (r0, 7, 6, .ref xf), (r0, 7, 7, .ref xt)] [(r2, 280, n2, ca 1, ff), (xf, 290, 13, ca 1, fx), (xt, 291, 13, ca 1, ft)] [(jFg, jFr dC dI ca Gx_4 r0)] H_18 locs_18 := (hh_15.callG hb_181 hb_182 hb_183 hb_184 hb_185 hS_18 rfl (L1 := [(r0, 7, 10, .int wf_4), (r0, 7, 5, .ref so), (r0, 7, 6, .ref xf), (r0, 7, 7, .ref xt)]) [0, 1, 2, 3] rfl rfl (M1 := [(r2, 280, n2, ca 1, ff), (xf, 290, 13, ca 1, fx), (xt, 291, 13, ca 1, ft)]) [0, 1, 2] rfl rfl (I1 := [(jFg, jFr dC dI ca Gx_4 r0)]) [0] rfl rfl).more hb_186
          have hNn_18 : (jNk [0, 1, 2, 3, 4, 6, 7, 8, 9, 10, 11, 12, 13, 14, 15, 16, 17, 175]) G0 G_18 := (hN_4).tr hN_18
          have hg_20 := hb_182 _ _ hg_5
          have hg_21 := hb_182 _ _ hg_6
          have hg_22 := hb_182 _ _ hg_7
          have hg_23 := hb_182 _ _ hg_8
          have hg_24 := hb_182 _ _ hg_9
          have hg_25 := hb_182 _ _ hg_10
          have hd_26 := jFr.grow (hh_18.iv 0 rfl) hb_182
          have hh_27 := hh_18.sub (L1 := [(r0, 7, 10, .int wf_4), (r0, 7, 5, .ref so), (r0, 7, 6, .ref xf), (r0, 7, 7, .ref xt)]) [0, 1, 2, 3] rfl (M1 := [(r2, 280, n2, ca 1, ff), (xf, 290, 13, ca 1, fx), (xt, 291, 13, ca 1, ft)]) [0, 1, 2] rfl (I1 := []) [] rfl
          clear hh_18
          have hh_28 := hh_27.addI (jFr.ie hd_26)
          clear hh_27
          obtain ⟨hr_19, hr_19p⟩ := hr_19
          try simp only at hr_19p
          rcases hr_19 with rfl | ⟨hr_19, hr_19n⟩
          · skip
            have hsz_29 := hh_28.2.2.2.2.2.1
            have htt_29 := hh_28.2.2.2.2.2.2.1
            refine W.room (fun hrc_29 hrs_29 => ?_)
            refine j_callx (A0 := jA base) (H0 := s.heap) (va_runV (As := [.null]) (rest := [.ref r0]) ⟨hx, hb, hml, hown, hts⟩ (uX3_withFormulaZ l dC dI ca base B hB hAp hB5 hB101 hB280 hB313 G_18 H_18 r1 n1 LC LS) (cwV 1 hts (jgV (jWr_87 _ (List.mem_of_getElem? (i := 10) rfl)) (jWr_87 _ (List.mem_of_getElem? (i := 11) rfl)) (jWr_87 _ (List.mem_of_getElem? (i := 12) rfl)) (jWr_82 _ (List.mem_of_getElem? (i := 10) rfl)) (jWr_87 _ (List.mem_of_getElem? (i := 13) rfl))) rfl rfl rfl (by decide +kernel) ⟨by rw [← hR]; exact Nat.le_of_ble_eq_true rfl, by rw [← hR]; exact Nat.le_of_ble_eq_true rfl⟩) ⟨fun a U g mk q => by obtain ⟨q0, q1, q2, qK, q10, q11, q12⟩ := q; exact ⟨q0, q1, q2, jG.calling g mk a qK, q10, q11, q12⟩, hh_28.recv (C := RX3) (T := TX3) (N := 4) hB5 rfl (by decide) hg_21 hK, fun U hU hW => ⟨rfl, hU, hh_28.2.1, hG.step hW hU hh_28.1, hg_21, jP.nil, by first | omega | rfl | assumption | decide | exact Or.inl rfl | exact Or.inr rfl | (simp only; omega)⟩⟩ rfl rfl hl.1 rfl (lv_room (Nat.le_of_ble_eq_true rfl)) dX5_addPremises_55 ⟨by rw [hRc]; omega, by rw [hRs]; omega⟩) hh_28.1 (fun q _ h => h) (fun q h => h) (fun r_30 u_29 t_29 H_29 locs_29 ht_29 hvm_29 hr_30 hb_29 hz_29 hk_29 hS_29 => ?_)
            rw [ht_29] at hb_29
            obtain ⟨m_ret_29, G_29⟩ := u_29
            simp only at hb_29
            obtain ⟨⟨hb_291, hb_292, hb_293, hb_294, hb_295, hb_296⟩, hN_29⟩ := hb_29
            have hh_29 : jSt (dC, dI) B base G0 G_29 EX5_addPremises s.heap ((zcx_4 + (1)) + (1)) ((zsx_4 + (80)) + (4)) [(r0, 7, 10, .int wf_4), (r0, 7, 5, .ref so), (r0, 7, 6, .ref xf), (r0, 7, 7, .ref xt)] [(r2, 280, n2, ca 1, ff), (xf, 290, 13, ca 1, fx), (xt, 291, 13, ca 1, ft)] [(jFg, jFr dC dI ca G_18 r0)] H_29 locs_29 := (hh_28.callG hb_291 hb_292 hb_293 hb_294 hb_295 hS_29 rfl (L1 := [(r0, 7, 10, .int wf_4), (r0, 7, 5, .ref so), (r0, 7, 6, .ref xf), (r0, 7, 7, .ref xt)]) [0, 1, 2, 3] rfl rfl (M1 := [(r2, 280, n2, ca 1, ff), (xf, 290, 13, ca 1, fx), (xt, 291, 13, ca 1, ft)]) [0, 1, 2] rfl rfl (I1 := [(jFg, jFr dC dI ca G_18 r0)]) [0] rfl rfl).more hb_296
            have hNn_29 : (jNk [0, 1, 2, 3, 4, 6, 7, 8, 9, 10, 11, 12, 13, 14, 15, 16, 17, 175]) G0 G_29 := (hNn_18).tr hN_29
            have hg_31 := hb_292 _ _ hg_20
            have hg_32 := hb_292 _ _ hg_21
            have hg_33 := hb_292 _ _ hg_22
            have hg_34 := hb_292 _ _ hg_23
            have hg_35 := hb_292 _ _ hg_24
            have hg_36 := hb_292 _ _ hg_25
            have hd_37 := jFr.grow (hh_29.iv 0 rfl) hb_292
            have hh_38 := hh_29.sub (L1 := [(r0, 7, 10, .int wf_4), (r0, 7, 5, .ref so), (r0, 7, 6, .ref xf), (r0, 7, 7, .ref xt)]) [0, 1, 2, 3] rfl (M1 := [(r2, 280, n2, ca 1, ff), (xf, 290, 13, ca 1, fx), (xt, 291, 13, ca 1, ft)]) [0, 1, 2] rfl (I1 := []) [] rfl
            clear hh_29
            have hh_39 := hh_38.addI (jFr.ie hd_37)
            clear hh_38
            obtain ⟨hr_30, hr_30n, hr_30p⟩ := hr_30
            try simp only at hr_30p
            obtain ⟨ret_40, rfl, hg_ret_40⟩ := hr_30
            have hsy_29 : s.heap.size ≤ ret_40 := Nat.le_trans hh_28.1.1 hr_30n.le
            have hsz_41 := hh_39.2.2.2.2.2.1
            have htt_41 := hh_39.2.2.2.2.2.2.1
            refine W.room (fun hrc_41 hrs_41 => ?_)
            refine va_calli (A0 := jA base) (H0 := s.heap) (va_runV (As := [.ref ret_40]) (rest := []) ⟨hx, hb, hml, hown, hts⟩ (uX5_add l dC dI ca base B hB hAp hB5 hB7 hB211 G_29 H_29 r0 ret_40 m_ret_29 wf_4) (cwV 1 hts (jgV (jWr_85 _ (List.mem_of_getElem? (i := 8) rfl)) (jWr_85 _ (List.mem_of_getElem? (i := 9) rfl)) (jWr_85 _ (List.mem_of_getElem? (i := 10) rfl)) (jWr_2 _ (List.mem_of_getElem? (i := 4) rfl)) (jWr_85 _ (List.mem_of_getElem? (i := 11) rfl))) rfl rfl rfl (by decide +kernel) ⟨by rw [← hR]; exact Nat.le_of_ble_eq_true rfl, by rw [← hR]; exact Nat.le_of_ble_eq_true rfl⟩) ⟨fun a U g mk q => by obtain ⟨q0, q1, q2, qK, q10, q11, q12, q13, q14, q15⟩ := q; exact ⟨q0, q1, q2, jG.calling g mk a qK, (va_K.moved (Vm.Alike.refl U.vm) q10), q11, q12, q13, q14, q15⟩, hh_39.recv (C := RX5) (T := TX5) (N := 11) hB7 rfl (by decide) hg_31 hK, fun U hU hW => ⟨rfl, hU, hh_39.2.1, hG.step hW hU hh_39.1, va_K.moved hW.alike hK2, hg_31, hg_ret_40, (hh_39.2.2.1.sub (L1 := [(r0, 7, 10, .int wf_4)]) [0] rfl), (hh_39.2.2.2.2.2.2.2.2.sub (L1 := [(jFg, jFr dC dI ca G_29 r0)]) [0] rfl), by first | omega | (refine ⟨?_, ?_, ?_⟩ <;> (first | omega | rfl | assumption | decide | exact Or.inl rfl | exact Or.inr rfl | (simp only; omega)))⟩⟩ rfl rfl hl.1 rfl (lv_room (Nat.le_of_ble_eq_true rfl)) dX5_addPremises_58 ⟨by rw [hRc]; show _ + 0 ≤ _; omega, by rw [hRs]; show _ + 0 ≤ _; omega⟩) hh_39.1 (fun q _ h => h) (fun q h => h) (fun r_42 u_41 t_41 H_41 locs_41 ht_41 hvm_41 hr_42 hb_41 hz_41 hk_41 hS_41 => ?_)
            obtain ⟨qf_41, rfl⟩ : ∃ z, z = u_41 := ⟨_, rfl⟩
            rw [ht_41] at hb_41
            obtain ⟨hb_41, hbE_41⟩ := hb_41
            obtain ⟨hb_411, hb_412, hb_413, hb_414, hb_415⟩ := hb_41
            have hh_41 : jSt (dC, dI) B base G0 G_29 EX5_addPremises s.heap ((zcx_4 + (1)) + (1)) ((zsx_4 + (80)) + (4)) [(r0, 7, 10, .int qf_41), (r0, 7, 5, .ref so), (r0, 7, 6, .ref xf), (r0, 7, 7, .ref xt)] [(r2, 280, n2, ca 1, ff), (xf, 290, 13, ca 1, fx), (xt, 291, 13, ca 1, ft)] [(jFg, jFr dC dI ca G_29 r0)] H_41 locs_41 := (((hh_39.call hb_411 hb_412 hb_413 hb_414 hS_41 rfl (L1 := [(r0, 7, 5, .ref so), (r0, 7, 6, .ref xf), (r0, 7, 7, .ref xt)]) [1, 2, 3] rfl rfl (M1 := [(r2, 280, n2, ca 1, ff), (xf, 290, 13, ca 1, fx), (xt, 291, 13, ca 1, ft)]) [0, 1, 2] rfl rfl (I1 := []) [] rfl rfl).more hb_415)).addIs hbE_41
            clear hh_39 ht_41 hvm_41 hz_41 hk_41 hS_41 hb_411 hb_412 hb_413 hb_414 hb_415
            clear  hbE_41
            obtain ⟨hr_42_0, hr_42_1⟩ := hr_42
            refine lv_pop hx hb dX5_addPremises_61 rfl ?_
            refine lv_iload hx hb dX5_addPremises_62 (lv_at hl 0 rfl) ?_
            refine lv_istore (lv' := [(5, .int r_16), (7, .int r_16), (0, .ref r0), (1, .ref r1), (2, .ref r2), (3, .int a3), (4, .int r_3), (6, .int v6_4)]) hx hb dX5_addPremises_64 hl (by decide) rfl (fun ls hl => ?_)
            obtain ⟨z_43, ez_43⟩ : ∃ y : Int32, y = v6_4 + 1 := ⟨_, rfl⟩
            refine lv_iinc (v := z_43) (lv' := [(6, .int z_43), (5, .int r_16), (7, .int r_16), (0, .ref r0), (1, .ref r1), (2, .ref r2), (3, .int a3), (4, .int r_3)]) hx hb dX5_addPremises_66 hl (k := 7) rfl (by rw [ez_43]; rfl) (by decide) rfl (fun ls hl => ?_)
            have hz_43 : z_43.toInt = v6_4.toInt + 1 := by rw [ez_43]; exact jb_iadd2 (rfl) (by decide) (by omega)
            refine lv_goto (tgt := 22) hx hb dX5_addPremises_69 (by decide) ?_
            refine W.tight (c2 := ((zcx_4 + (1)) + (1))) (n2 := ((zsx_4 + (80)) + (4))) hh_41.2.2.2.2.2.1 hh_41.2.2.2.2.2.2.1 ?_
            exact L22 G_29 ((zcx_4 + (1)) + (1)) ((zsx_4 + (80)) + (4)) r_16 z_43 qf_41 _ _ hh_41 (hNn_29) (((hle_4).tr hb_182).tr hb_292) (by first | omega | (refine ⟨?_, ?_, ?_, ?_, ?_, ?_, ?_⟩ <;> (first | omega | rfl | assumption | decide | exact Or.inl rfl | exact Or.inr rfl | (simp only; omega)))) (by omega) _ (lv_sub hl [3, 4, 5, 6, 7, 1, 0] rfl)
          · skip
            obtain ⟨ret_44, rfl, hg_ret_44⟩ := hr_19
            have hsy_18 : s.heap.size ≤ ret_44 := Nat.le_trans hh_15.1.1 hr_19n.le
            have hsz_45 := hh_28.2.2.2.2.2.1
            have htt_45 := hh_28.2.2.2.2.2.2.1
            refine W.room (fun hrc_45 hrs_45 => ?_)
            refine j_callx (A0 := jA base) (H0 := s.heap) (va_runV (As := [.ref ret_44]) (rest := [.ref r0]) ⟨hx, hb, hml, hown, hts⟩ (uX3_withFormula l dC dI ca base B hB hAp hB5 hB101 hB280 hB313 G_18 H_18 r1 ret_44 n1 m_ret_18 LC LS) (cwV 1 hts (jgV (jWr_87 _ (List.mem_of_getElem? (i := 10) rfl)) (jWr_87 _ (List.mem_of_getElem? (i := 11) rfl)) (jWr_87 _ (List.mem_of_getElem? (i := 12) rfl)) (jWr_82 _ (List.mem_of_getElem? (i := 10) rfl)) (jWr_87 _ (List.mem_of_getElem? (i := 13) rfl))) rfl rfl rfl (by decide +kernel) ⟨by rw [← hR]; exact Nat.le_of_ble_eq_true rfl, by rw [← hR]; exact Nat.le_of_ble_eq_true rfl⟩) ⟨fun a U g mk q => by obtain ⟨q0, q1, q2, qK, q10, q11, q12, q13⟩ := q; exact ⟨q0, q1, q2, jG.calling g mk a qK, q10, q11, q12, q13⟩, hh_28.recv (C := RX3) (T := TX3) (N := 4) hB5 rfl (by decide) hg_21 hK, fun U hU hW => ⟨rfl, hU, hh_28.2.1, hG.step hW hU hh_28.1, hg_21, hg_ret_44, jP.nil, by first | omega | (refine ⟨?_, ?_⟩ <;> (first | omega | rfl | assumption | decide | exact Or.inl rfl | exact Or.inr rfl | (simp only; omega)))⟩⟩ rfl rfl hl.1 rfl (lv_room (Nat.le_of_ble_eq_true rfl)) dX5_addPremises_55 ⟨by rw [hRc]; omega, by rw [hRs]; omega⟩) hh_28.1 (fun q _ h => h) (fun q h => h) (fun r_46 u_45 t_45 H_45 locs_45 ht_45 hvm_45 hr_46 hb_45 hz_45 hk_45 hS_45 => ?_)
            rw [ht_45] at hb_45
            obtain ⟨m_ret_45, G_45⟩ := u_45
            simp only at hb_45
            obtain ⟨⟨hb_451, hb_452, hb_453, hb_454, hb_455, hb_456⟩, hN_45⟩ := hb_45
            have hh_45 : jSt (dC, dI) B base G0 G_45 EX5_addPremises s.heap ((zcx_4 + (1)) + (1)) ((zsx_4 + (80)) + (4)) [(r0, 7, 10, .int wf_4), (r0, 7, 5, .ref so), (r0, 7, 6, .ref xf), (r0, 7, 7, .ref xt)] [(r2, 280, n2, ca 1, ff), (xf, 290, 13, ca 1, fx), (xt, 291, 13, ca 1, ft)] [(jFg, jFr dC dI ca G_18 r0)] H_45 locs_45 := (hh_28.callG hb_451 hb_452 hb_453 hb_454 hb_455 hS_45 rfl (L1 := [(r0, 7, 10, .int wf_4), (r0, 7, 5, .ref so), (r0, 7, 6, .ref xf), (r0, 7, 7, .ref xt)]) [0, 1, 2, 3] rfl rfl (M1 := [(r2, 280, n2, ca 1, ff), (xf, 290, 13, ca 1, fx), (xt, 291, 13, ca 1, ft)]) [0, 1, 2] rfl rfl (I1 := [(jFg, jFr dC dI ca G_18 r0)]) [0] rfl rfl).more hb_456
            have hNn_45 : (jNk [0, 1, 2, 3, 4, 6, 7, 8, 9, 10, 11, 12, 13, 14, 15, 16, 17, 175]) G0 G_45 := (hNn_18).tr hN_45
            have hg_47 := hb_452 _ _ hg_20
            have hg_48 := hb_452 _ _ hg_21
            have hg_49 := hb_452 _ _ hg_22
            have hg_50 := hb_452 _ _ hg_23
            have hg_51 := hb_452 _ _ hg_24
            have hg_52 := hb_452 _ _ hg_25
            have hd_53 := jFr.grow (hh_45.iv 0 rfl) hb_452
            have hh_54 := hh_45.sub (L1 := [(r0, 7, 10, .int wf_4), (r0, 7, 5, .ref so), (r0, 7, 6, .ref xf), (r0, 7, 7, .ref xt)]) [0, 1, 2, 3] rfl (M1 := [(r2, 280, n2, ca 1, ff), (xf, 290, 13, ca 1, fx), (xt, 291, 13, ca 1, ft)]) [0, 1, 2] rfl (I1 := []) [] rfl
            clear hh_45
            have hh_55 := hh_54.addI (jFr.ie hd_53)
            clear hh_54
            obtain ⟨hr_46, hr_46n, hr_46p⟩ := hr_46
            try simp only at hr_46p
            obtain ⟨ret_56, rfl, hg_ret_56⟩ := hr_46
            have hsy_45 : s.heap.size ≤ ret_56 := Nat.le_trans hh_28.1.1 hr_46n.le
            have hsz_57 := hh_55.2.2.2.2.2.1
            have htt_57 := hh_55.2.2.2.2.2.2.1
            refine W.room (fun hrc_57 hrs_57 => ?_)
            refine va_calli (A0 := jA base) (H0 := s.heap) (va_runV (As := [.ref ret_56]) (rest := []) ⟨hx, hb, hml, hown, hts⟩ (uX5_add l dC dI ca base B hB hAp hB5 hB7 hB211 G_45 H_45 r0 ret_56 m_ret_45 wf_4) (cwV 1 hts (jgV (jWr_85 _ (List.mem_of_getElem? (i := 8) rfl)) (jWr_85 _ (List.mem_of_getElem? (i := 9) rfl)) (jWr_85 _ (List.mem_of_getElem? (i := 10) rfl)) (jWr_2 _ (List.mem_of_getElem? (i := 4) rfl)) (jWr_85 _ (List.mem_of_getElem? (i := 11) rfl))) rfl rfl rfl (by decide +kernel) ⟨by rw [← hR]; exact Nat.le_of_ble_eq_true rfl, by rw [← hR]; exact Nat.le_of_ble_eq_true rfl⟩) ⟨fun a U g mk q => by obtain ⟨q0, q1, q2, qK, q10, q11, q12, q13, q14, q15⟩ := q; exact ⟨q0, q1, q2, jG.calling g mk a qK, (va_K.moved (Vm.Alike.refl U.vm) q10), q11, q12, q13, q14, q15⟩, hh_55.recv (C := RX5) (T := TX5) (N := 11) hB7 rfl (by decide) hg_47 hK, fun U hU hW => ⟨rfl, hU, hh_55.2.1, hG.step hW hU hh_55.1, va_K.moved hW.alike hK2, hg_47, hg_ret_56, (hh_55.2.2.1.sub (L1 := [(r0, 7, 10, .int wf_4)]) [0] rfl), (hh_55.2.2.2.2.2.2.2.2.sub (L1 := [(jFg, jFr dC dI ca G_45 r0)]) [0] rfl), by first | omega | (refine ⟨?_, ?_, ?_⟩ <;> (first | omega | rfl | assumption | decide | exact Or.inl rfl | exact Or.inr rfl | (simp only; omega)))⟩⟩ rfl rfl hl.1 rfl (lv_room (Nat.le_of_ble_eq_true rfl)) dX5_addPremises_58 ⟨by rw [hRc]; show _ + 0 ≤ _; omega, by rw [hRs]; show _ + 0 ≤ _; omega⟩) hh_55.1 (fun q _ h => h) (fun q h => h) (fun r_58 u_57 t_57 H_57 locs_57 ht_57 hvm_57 hr_58 hb_57 hz_57 hk_57 hS_57 => ?_)
            obtain ⟨qf_57, rfl⟩ : ∃ z, z = u_57 := ⟨_, rfl⟩
            rw [ht_57] at hb_57
            obtain ⟨hb_57, hbE_57⟩ := hb_57
            obtain ⟨hb_571, hb_572, hb_573, hb_574, hb_575⟩ := hb_57
            have hh_57 : jSt (dC, dI) B base G0 G_45 EX5_addPremises s.heap ((zcx_4 + (1)) + (1)) ((zsx_4 + (80)) + (4)) [(r0, 7, 10, .int qf_57), (r0, 7, 5, .ref so), (r0, 7, 6, .ref xf), (r0, 7, 7, .ref xt)] [(r2, 280, n2, ca 1, ff), (xf, 290, 13, ca 1, fx), (xt, 291, 13, ca 1, ft)] [(jFg, jFr dC dI ca G_45 r0)] H_57 locs_57 := (((hh_55.call hb_571 hb_572 hb_573 hb_574 hS_57 rfl (L1 := [(r0, 7, 5, .ref so), (r0, 7, 6, .ref xf), (r0, 7, 7, .ref xt)]) [1, 2, 3] rfl rfl (M1 := [(r2, 280, n2, ca 1, ff), (xf, 290, 13, ca 1, fx), (xt, 291, 13, ca 1, ft)]) [0, 1, 2] rfl rfl (I1 := []) [] rfl rfl).more hb_575)).addIs hbE_57
            clear hh_55 ht_57 hvm_57 hz_57 hk_57 hS_57 hb_571 hb_572 hb_573 hb_574 hb_575
            clear  hbE_57
            obtain ⟨hr_58_0, hr_58_1⟩ := hr_58
            refine lv_pop hx hb dX5_addPremises_61 rfl ?_
            refine lv_iload hx hb dX5_addPremises_62 (lv_at hl 0 rfl) ?_
            refine lv_istore (lv' := [(5, .int r_16), (7, .int r_16), (0, .ref r0), (1, .ref r1), (2, .ref r2), (3, .int a3), (4, .int r_3), (6, .int v6_4)]) hx hb dX5_addPremises_64 hl (by decide) rfl (fun ls hl => ?_)
            obtain ⟨z_59, ez_59⟩ : ∃ y : Int32, y = v6_4 + 1 := ⟨_, rfl⟩
            refine lv_iinc (v := z_59) (lv' := [(6, .int z_59), (5, .int r_16), (7, .int r_16), (0, .ref r0), (1, .ref r1), (2, .ref r2), (3, .int a3), (4, .int r_3)]) hx hb dX5_addPremises_66 hl (k := 7) rfl (by rw [ez_59]; rfl) (by decide) rfl (fun ls hl => ?_)
            have hz_59 : z_59.toInt = v6_4.toInt + 1 := by rw [ez_59]; exact jb_iadd2 (rfl) (by decide) (by omega)
            refine lv_goto (tgt := 22) hx hb dX5_addPremises_69 (by decide) ?_
            refine W.tight (c2 := ((zcx_4 + (1)) + (1))) (n2 := ((zsx_4 + (80)) + (4))) hh_57.2.2.2.2.2.1 hh_57.2.2.2.2.2.2.1 ?_
            exact L22 G_45 ((zcx_4 + (1)) + (1)) ((zsx_4 + (80)) + (4)) r_16 z_59 qf_57 _ _ hh_57 (hNn_45) (((hle_4).tr hb_182).tr hb_452) (by first | omega | (refine ⟨?_, ?_, ?_, ?_, ?_, ?_, ?_⟩ <;> (first | omega | rfl | assumption | decide | exact Or.inl rfl | exact Or.inr rfl | (simp only; omega)))) (by omega) _ (lv_sub hl [3, 4, 5, 6, 7, 1, 0] rfl)
    refine W.tight (c2 := 0) (n2 := 0) hh_2.2.2.2.2.2.1 hh_2.2.2.2.2.2.2.1 ?_
    exact L22 (6 - (0 : Int32).toInt : Int).toNat.succ G0 0 0 r_3 0 pf _ _ (hh_2.sub (L1 := [(r0, 7, 10, .int pf), (r0, 7, 5, .ref so), (r0, 7, 6, .ref xf), (r0, 7, 7, .ref xt)]) [3, 0, 1, 2] rfl (M1 := [(r2, 280, n2, ca 1, ff), (xf, 290, 13, ca 1, fx), (xt, 291, 13, ca 1, ft)]) [0, 1, 2] rfl (I1 := [(jFg, jFr dC dI ca G0 r0)]) [0] rfl) (jNk.rf) (jLe.rf) (by first | omega | (refine ⟨?_, ?_, ?_, ?_, ?_, ?_, ?_⟩ <;> (first | omega | rfl | assumption | decide | exact Or.inl rfl | exact Or.inr rfl | (simp only; omega)))) (by omega) _ (lv_sub hl [3, 4, 5, 6, 2, 1, 0] rfl)
  · skip
    have c_1' : a3.toInt > 6 := jb_le_n (rfl) ((by decide)) c_1
    refine lv_bipush (v := 9) hx hb dX5_addPremises_6 (by decide) ?_
    have hsz_60 := hh.2.2.2.2.2.1
    have htt_60 := hh.2.2.2.2.2.2.1
    refine W.room (fun hrc_60 hrs_60 => ?_)
    refine W.widen (k := LC - s.heap.size) (n := LS - jTot s.heap) (by omega) (by omega) ?_
    rw [hQ]
    exact W.iret (v := 9) hx hb hr (fun t ht hW => ⟨⟨9, (pf, G0), rfl, by (try dsimp only); exact ⟨(by first | omega | rfl | assumption | fail), (by first | omega | rfl | assumption | fail)⟩, ⟨hh.ra (by first | omega | (simp only; omega)) (by first | omega | (simp only; omega)) (M1 := [(r0, 7, 10, .int pf)]) [3] rfl ht, jNk.rf, by rw [ht]; exact hh.2.2.2.2.2.2.2.2.sub (L1 := [(jFg, jFr dC dI ca G0 r0)]) [0] rfl⟩⟩, by rw [ht]; try exact hh.1.1, fun q h9 hq => by rw [ht]; try exact hh.1.2.1 q h9 hq⟩) hh.1.2.2 dX5_addPremises_8
end
