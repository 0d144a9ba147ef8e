def F14 (n : Nat) (G : jT) : List (Value → Prop) := [jRf G 101 40, jI 0 40, jIa, jRf G 101 1500, jI 0 1500, jI 0 40, jRf G 190 40, jRf G 191 40, jRf G 192 40, jI 0 40, jRf G 193 40]
theorem dX14_part_0 : decode cX14_part 0 = .ok (.aload_n 0, 1) := by decide +kernel
theorem dX14_part_1 : decode cX14_part 1 = .ok (.getfield 529, 3) := by decide +kernel
theorem dX14_part_4 : decode cX14_part 4 = .ok (.astore_n 1, 1) := by decide +kernel
theorem dX14_part_5 : decode cX14_part 5 = .ok (.aload_n 0, 1) := by decide +kernel
theorem dX14_part_6 : decode cX14_part 6 = .ok (.getfield 526, 3) := by decide +kernel
theorem dX14_part_9 : decode cX14_part 9 = .ok (.istore_n 2, 1) := by decide +kernel
theorem dX14_part_10 : decode cX14_part 10 = .ok (.aload_n 0, 1) := by decide +kernel
theorem dX14_part_11 : decode cX14_part 11 = .ok (.iconst 0, 1) := by decide +kernel
theorem dX14_part_12 : decode cX14_part 12 = .ok (.putfield 587, 3) := by decide +kernel
theorem dX14_part_15 : decode cX14_part 15 = .ok (.aload_n 1, 1) := by decide +kernel
theorem dX14_part_16 : decode cX14_part 16 = .ok (.iconst 0, 1) := by decide +kernel
theorem dX14_part_17 : decode cX14_part 17 = .ok (.iload_n 2, 1) := by decide +kernel
theorem dX14_part_18 : decode cX14_part 18 = .ok (.invokestatic 621, 3) := by decide +kernel
theorem dX14_part_21 : decode cX14_part 21 = .ok (.istore_n 3, 1) := by decide +kernel
theorem dX14_part_22 : decode cX14_part 22 = .ok (.iload_n 3, 1) := by decide +kernel
theorem dX14_part_23 : decode cX14_part 23 = .ok (.iload_n 2, 1) := by decide +kernel
theorem dX14_part_24 : decode cX14_part 24 = .ok (.if_icmp .ge 116, 3) := by decide +kernel
theorem dX14_part_27 : decode cX14_part 27 = .ok (.aload_n 0, 1) := by decide +kernel
theorem dX14_part_28 : decode cX14_part 28 = .ok (.getfield 587, 3) := by decide +kernel
theorem dX14_part_31 : decode cX14_part 31 = .ok (.istore 4, 2) := by decide +kernel
theorem dX14_part_33 : decode cX14_part 33 = .ok (.aload_n 0, 1) := by decide +kernel
theorem dX14_part_34 : decode cX14_part 34 = .ok (.dup, 1) := by decide +kernel
theorem dX14_part_35 : decode cX14_part 35 = .ok (.getfield 587, 3) := by decide +kernel
theorem dX14_part_38 : decode cX14_part 38 = .ok (.iconst 1, 1) := by decide +kernel
theorem dX14_part_39 : decode cX14_part 39 = .ok (.iadd, 1) := by decide +kernel
theorem dX14_part_40 : decode cX14_part 40 = .ok (.putfield 587, 3) := by decide +kernel
theorem dX14_part_43 : decode cX14_part 43 = .ok (.aload_n 0, 1) := by decide +kernel
theorem dX14_part_44 : decode cX14_part 44 = .ok (.getfield 596, 3) := by decide +kernel
theorem dX14_part_47 : decode cX14_part 47 = .ok (.iload 4, 2) := by decide +kernel
theorem dX14_part_49 : decode cX14_part 49 = .ok (.iload_n 3, 1) := by decide +kernel
theorem dX14_part_50 : decode cX14_part 50 = .ok (.iastore, 1) := by decide +kernel
theorem dX14_part_51 : decode cX14_part 51 = .ok (.aload_n 1, 1) := by decide +kernel
theorem dX14_part_52 : decode cX14_part 52 = .ok (.iload_n 3, 1) := by decide +kernel
theorem dX14_part_53 : decode cX14_part 53 = .ok (.iload_n 2, 1) := by decide +kernel
theorem dX14_part_54 : decode cX14_part 54 = .ok (.invokestatic 624, 3) := by decide +kernel
theorem dX14_part_57 : decode cX14_part 57 = .ok (.istore 5, 2) := by decide +kernel
theorem dX14_part_59 : decode cX14_part 59 = .ok (.aload_n 0, 1) := by decide +kernel
theorem dX14_part_60 : decode cX14_part 60 = .ok (.getfield 599, 3) := by decide +kernel
theorem dX14_part_63 : decode cX14_part 63 = .ok (.iload 4, 2) := by decide +kernel
theorem dX14_part_65 : decode cX14_part 65 = .ok (.iload 5, 2) := by decide +kernel
theorem dX14_part_67 : decode cX14_part 67 = .ok (.ifCond .ge 7, 3) := by decide +kernel
theorem dX14_part_70 : decode cX14_part 70 = .ok (.iconst 1, 1) := by decide +kernel
theorem dX14_part_71 : decode cX14_part 71 = .ok (.goto 4, 3) := by decide +kernel
theorem dX14_part_74 : decode cX14_part 74 = .ok (.iconst 0, 1) := by decide +kernel
theorem dX14_part_75 : decode cX14_part 75 = .ok (.iastore, 1) := by decide +kernel
theorem dX14_part_76 : decode cX14_part 76 = .ok (.aload_n 0, 1) := by decide +kernel
theorem dX14_part_77 : decode cX14_part 77 = .ok (.getfield 594, 3) := by decide +kernel
theorem dX14_part_80 : decode cX14_part 80 = .ok (.iload 4, 2) := by decide +kernel
theorem dX14_part_82 : decode cX14_part 82 = .ok (.iload 5, 2) := by decide +kernel
theorem dX14_part_84 : decode cX14_part 84 = .ok (.ifCond .ge 7, 3) := by decide +kernel
theorem dX14_part_87 : decode cX14_part 87 = .ok (.iload_n 2, 1) := by decide +kernel
theorem dX14_part_88 : decode cX14_part 88 = .ok (.goto 5, 3) := by decide +kernel
theorem dX14_part_91 : decode cX14_part 91 = .ok (.iload 5, 2) := by decide +kernel
theorem dX14_part_93 : decode cX14_part 93 = .ok (.iastore, 1) := by decide +kernel
theorem dX14_part_94 : decode cX14_part 94 = .ok (.aload_n 1, 1) := by decide +kernel
theorem dX14_part_95 : decode cX14_part 95 = .ok (.aload_n 0, 1) := by decide +kernel
theorem dX14_part_96 : decode cX14_part 96 = .ok (.getfield 594, 3) := by decide +kernel
theorem dX14_part_99 : decode cX14_part 99 = .ok (.iload 4, 2) := by decide +kernel
theorem dX14_part_101 : decode cX14_part 101 = .ok (.iaload, 1) := by decide +kernel
theorem dX14_part_102 : decode cX14_part 102 = .ok (.iload_n 2, 1) := by decide +kernel
theorem dX14_part_103 : decode cX14_part 103 = .ok (.invokestatic 621, 3) := by decide +kernel
theorem dX14_part_106 : decode cX14_part 106 = .ok (.istore_n 3, 1) := by decide +kernel
theorem dX14_part_107 : decode cX14_part 107 = .ok (.iload 4, 2) := by decide +kernel
theorem dX14_part_109 : decode cX14_part 109 = .ok (.bipush 39, 2) := by decide +kernel
theorem dX14_part_111 : decode cX14_part 111 = .ok (.if_icmp .ne 26, 3) := by decide +kernel
theorem dX14_part_114 : decode cX14_part 114 = .ok (.iload_n 3, 1) := by decide +kernel
theorem dX14_part_115 : decode cX14_part 115 = .ok (.iload_n 2, 1) := by decide +kernel
theorem dX14_part_116 : decode cX14_part 116 = .ok (.if_icmp .ge 21, 3) := by decide +kernel
theorem dX14_part_119 : decode cX14_part 119 = .ok (.aload_n 0, 1) := by decide +kernel
theorem dX14_part_120 : decode cX14_part 120 = .ok (.getfield 599, 3) := by decide +kernel
theorem dX14_part_123 : decode cX14_part 123 = .ok (.iload 4, 2) := by decide +kernel
theorem dX14_part_125 : decode cX14_part 125 = .ok (.iconst 2, 1) := by decide +kernel
theorem dX14_part_126 : decode cX14_part 126 = .ok (.iastore, 1) := by decide +kernel
theorem dX14_part_127 : decode cX14_part 127 = .ok (.aload_n 0, 1) := by decide +kernel
theorem dX14_part_128 : decode cX14_part 128 = .ok (.getfield 594, 3) := by decide +kernel
theorem dX14_part_131 : decode cX14_part 131 = .ok (.iload 4, 2) := by decide +kernel
theorem dX14_part_133 : decode cX14_part 133 = .ok (.iload_n 2, 1) := by decide +kernel
theorem dX14_part_134 : decode cX14_part 134 = .ok (.iastore, 1) := by decide +kernel
theorem dX14_part_135 : decode cX14_part 135 = .ok (.iload_n 2, 1) := by decide +kernel
theorem dX14_part_136 : decode cX14_part 136 = .ok (.istore_n 3, 1) := by decide +kernel
theorem dX14_part_137 : decode cX14_part 137 = .ok (.goto (-115), 3) := by decide +kernel
theorem dX14_part_140 : decode cX14_part 140 = .ok (.return_, 1) := by decide +kernel
theorem dX14_position_0 : decode cX14_position 0 = .ok (.iconst 0, 1) := by decide +kernel
theorem dX14_position_1 : decode cX14_position 1 = .ok (.istore_n 3, 1) := by decide +kernel
theorem dX14_position_2 : decode cX14_position 2 = .ok (.iconst 0, 1) := by decide +kernel
theorem dX14_position_3 : decode cX14_position 3 = .ok (.istore 4, 2) := by decide +kernel
theorem dX14_position_5 : decode cX14_position 5 = .ok (.aload_n 1, 1) := by decide +kernel
theorem dX14_position_6 : decode cX14_position 6 = .ok (.getfield 529, 3) := by decide +kernel
theorem dX14_position_9 : decode cX14_position 9 = .ok (.aload_n 1, 1) := by decide +kernel
theorem dX14_position_10 : decode cX14_position 10 = .ok (.getfield 526, 3) := by decide +kernel
theorem dX14_position_13 : decode cX14_position 13 = .ok (.iconst 1, 1) := by decide +kernel
theorem dX14_position_14 : decode cX14_position 14 = .ok (.invokestatic 541, 3) := by decide +kernel
theorem dX14_position_17 : decode cX14_position 17 = .ok (.istore 5, 2) := by decide +kernel
theorem dX14_position_19 : decode cX14_position 19 = .ok (.iload 5, 2) := by decide +kernel
theorem dX14_position_21 : decode cX14_position 21 = .ok (.ifCond .lt 35, 3) := by decide +kernel
theorem dX14_position_24 : decode cX14_position 24 = .ok (.iload 5, 2) := by decide +kernel
theorem dX14_position_26 : decode cX14_position 26 = .ok (.iload_n 2, 1) := by decide +kernel
theorem dX14_position_27 : decode cX14_position 27 = .ok (.if_icmp .gt 29, 3) := by decide +kernel
theorem dX14_position_30 : decode cX14_position 30 = .ok (.iinc 3 1, 3) := by decide +kernel
theorem dX14_position_33 : decode cX14_position 33 = .ok (.iload 5, 2) := by decide +kernel
theorem dX14_position_35 : decode cX14_position 35 = .ok (.istore 4, 2) := by decide +kernel
theorem dX14_position_37 : decode cX14_position 37 = .ok (.aload_n 1, 1) := by decide +kernel
theorem dX14_position_38 : decode cX14_position 38 = .ok (.getfield 529, 3) := by decide +kernel
theorem dX14_position_41 : decode cX14_position 41 = .ok (.aload_n 1, 1) := by decide +kernel
theorem dX14_position_42 : decode cX14_position 42 = .ok (.getfield 526, 3) := by decide +kernel
theorem dX14_position_45 : decode cX14_position 45 = .ok (.iload_n 3, 1) := by decide +kernel
theorem dX14_position_46 : decode cX14_position 46 = .ok (.iconst 1, 1) := by decide +kernel
theorem dX14_position_47 : decode cX14_position 47 = .ok (.iadd, 1) := by decide +kernel
theorem dX14_position_48 : decode cX14_position 48 = .ok (.invokestatic 541, 3) := by decide +kernel
theorem dX14_position_51 : decode cX14_position 51 = .ok (.istore 5, 2) := by decide +kernel
theorem dX14_position_53 : decode cX14_position 53 = .ok (.goto (-34), 3) := by decide +kernel
theorem dX14_position_56 : decode cX14_position 56 = .ok (.aload_n 0, 1) := by decide +kernel
theorem dX14_position_57 : decode cX14_position 57 = .ok (.ldc_w 730, 3) := by decide +kernel
theorem dX14_position_60 : decode cX14_position 60 = .ok (.invokevirtual 189, 3) := by decide +kernel
theorem dX14_position_63 : decode cX14_position 63 = .ok (.aload_n 0, 1) := by decide +kernel
theorem dX14_position_64 : decode cX14_position 64 = .ok (.iload_n 3, 1) := by decide +kernel
theorem dX14_position_65 : decode cX14_position 65 = .ok (.invokevirtual 208, 3) := by decide +kernel
theorem dX14_position_68 : decode cX14_position 68 = .ok (.aload_n 0, 1) := by decide +kernel
theorem dX14_position_69 : decode cX14_position 69 = .ok (.ldc_w 732, 3) := by decide +kernel
theorem dX14_position_72 : decode cX14_position 72 = .ok (.invokevirtual 189, 3) := by decide +kernel
theorem dX14_position_75 : decode cX14_position 75 = .ok (.aload_n 0, 1) := by decide +kernel
theorem dX14_position_76 : decode cX14_position 76 = .ok (.iload_n 2, 1) := by decide +kernel
theorem dX14_position_77 : decode cX14_position 77 = .ok (.iload 4, 2) := by decide +kernel
theorem dX14_position_79 : decode cX14_position 79 = .ok (.isub, 1) := by decide +kernel
theorem dX14_position_80 : decode cX14_position 80 = .ok (.invokevirtual 208, 3) := by decide +kernel
theorem dX14_position_83 : decode cX14_position 83 = .ok (.aload_n 0, 1) := by decide +kernel
theorem dX14_position_84 : decode cX14_position 84 = .ok (.bipush 125, 2) := by decide +kernel
theorem dX14_position_86 : decode cX14_position 86 = .ok (.invokevirtual 172, 3) := by decide +kernel
theorem dX14_position_89 : decode cX14_position 89 = .ok (.return_, 1) := by decide +kernel
theorem dX14_inCache_0 : decode cX14_inCache 0 = .ok (.iconst 0, 1) := by decide +kernel
theorem dX14_inCache_1 : decode cX14_inCache 1 = .ok (.istore_n 1, 1) := by decide +kernel
theorem dX14_inCache_2 : decode cX14_inCache 2 = .ok (.iload_n 1, 1) := by decide +kernel
theorem dX14_inCache_3 : decode cX14_inCache 3 = .ok (.aload_n 0, 1) := by decide +kernel
theorem dX14_inCache_4 : decode cX14_inCache 4 = .ok (.getfield 769, 3) := by decide +kernel
theorem dX14_inCache_7 : decode cX14_inCache 7 = .ok (.if_icmp .ge 81, 3) := by decide +kernel
theorem dX14_inCache_10 : decode cX14_inCache 10 = .ok (.aload_n 0, 1) := by decide +kernel
theorem dX14_inCache_11 : decode cX14_inCache 11 = .ok (.getfield 145, 3) := by decide +kernel
theorem dX14_inCache_14 : decode cX14_inCache 14 = .ok (.iload_n 1, 1) := by decide +kernel
theorem dX14_inCache_15 : decode cX14_inCache 15 = .ok (.iaload, 1) := by decide +kernel
theorem dX14_inCache_16 : decode cX14_inCache 16 = .ok (.aload_n 0, 1) := by decide +kernel
theorem dX14_inCache_17 : decode cX14_inCache 17 = .ok (.getfield 766, 3) := by decide +kernel
theorem dX14_inCache_20 : decode cX14_inCache 20 = .ok (.if_icmp .ne 7, 3) := by decide +kernel
theorem dX14_inCache_23 : decode cX14_inCache 23 = .ok (.iconst 1, 1) := by decide +kernel
theorem dX14_inCache_24 : decode cX14_inCache 24 = .ok (.goto 4, 3) := by decide +kernel
theorem dX14_inCache_27 : decode cX14_inCache 27 = .ok (.iconst 0, 1) := by decide +kernel
theorem dX14_inCache_28 : decode cX14_inCache 28 = .ok (.istore_n 2, 1) := by decide +kernel
theorem dX14_inCache_29 : decode cX14_inCache 29 = .ok (.iconst 0, 1) := by decide +kernel
theorem dX14_inCache_30 : decode cX14_inCache 30 = .ok (.istore_n 3, 1) := by decide +kernel
theorem dX14_inCache_31 : decode cX14_inCache 31 = .ok (.iload_n 3, 1) := by decide +kernel
theorem dX14_inCache_32 : decode cX14_inCache 32 = .ok (.aload_n 0, 1) := by decide +kernel
theorem dX14_inCache_33 : decode cX14_inCache 33 = .ok (.getfield 766, 3) := by decide +kernel
theorem dX14_inCache_36 : decode cX14_inCache 36 = .ok (.if_icmp .ge 40, 3) := by decide +kernel
theorem dX14_inCache_39 : decode cX14_inCache 39 = .ok (.iload_n 2, 1) := by decide +kernel
theorem dX14_inCache_40 : decode cX14_inCache 40 = .ok (.ifCond .eq 36, 3) := by decide +kernel
theorem dX14_inCache_43 : decode cX14_inCache 43 = .ok (.aload_n 0, 1) := by decide +kernel
theorem dX14_inCache_44 : decode cX14_inCache 44 = .ok (.getfield 142, 3) := by decide +kernel
theorem dX14_inCache_47 : decode cX14_inCache 47 = .ok (.sipush 1600, 3) := by decide +kernel
theorem dX14_inCache_50 : decode cX14_inCache 50 = .ok (.iload_n 1, 1) := by decide +kernel
theorem dX14_inCache_51 : decode cX14_inCache 51 = .ok (.imul, 1) := by decide +kernel
theorem dX14_inCache_52 : decode cX14_inCache 52 = .ok (.iload_n 3, 1) := by decide +kernel
theorem dX14_inCache_53 : decode cX14_inCache 53 = .ok (.iadd, 1) := by decide +kernel
theorem dX14_inCache_54 : decode cX14_inCache 54 = .ok (.iaload, 1) := by decide +kernel
theorem dX14_inCache_55 : decode cX14_inCache 55 = .ok (.aload_n 0, 1) := by decide +kernel
theorem dX14_inCache_56 : decode cX14_inCache 56 = .ok (.getfield 148, 3) := by decide +kernel
theorem dX14_inCache_59 : decode cX14_inCache 59 = .ok (.iload_n 3, 1) := by decide +kernel
theorem dX14_inCache_60 : decode cX14_inCache 60 = .ok (.iaload, 1) := by decide +kernel
theorem dX14_inCache_61 : decode cX14_inCache 61 = .ok (.if_icmp .ne 7, 3) := by decide +kernel
theorem dX14_inCache_64 : decode cX14_inCache 64 = .ok (.iconst 1, 1) := by decide +kernel
theorem dX14_inCache_65 : decode cX14_inCache 65 = .ok (.goto 4, 3) := by decide +kernel
theorem dX14_inCache_68 : decode cX14_inCache 68 = .ok (.iconst 0, 1) := by decide +kernel
theorem dX14_inCache_69 : decode cX14_inCache 69 = .ok (.istore_n 2, 1) := by decide +kernel
theorem dX14_inCache_70 : decode cX14_inCache 70 = .ok (.iinc 3 1, 3) := by decide +kernel
theorem dX14_inCache_73 : decode cX14_inCache 73 = .ok (.goto (-42), 3) := by decide +kernel
theorem dX14_inCache_76 : decode cX14_inCache 76 = .ok (.iload_n 2, 1) := by decide +kernel
theorem dX14_inCache_77 : decode cX14_inCache 77 = .ok (.ifCond .eq 5, 3) := by decide +kernel
theorem dX14_inCache_80 : decode cX14_inCache 80 = .ok (.iload_n 1, 1) := by decide +kernel
theorem dX14_inCache_81 : decode cX14_inCache 81 = .ok (.ireturn, 1) := by decide +kernel
theorem dX14_inCache_82 : decode cX14_inCache 82 = .ok (.iinc 1 1, 3) := by decide +kernel
theorem dX14_inCache_85 : decode cX14_inCache 85 = .ok (.goto (-83), 3) := by decide +kernel
theorem dX14_inCache_88 : decode cX14_inCache 88 = .ok (.iconst (-1), 1) := by decide +kernel
theorem dX14_inCache_89 : decode cX14_inCache 89 = .ok (.ireturn, 1) := by decide +kernel
theorem dX14_isWaitedFor_0 : decode cX14_isWaitedFor 0 = .ok (.iconst 0, 1) := by decide +kernel
theorem dX14_isWaitedFor_1 : decode cX14_isWaitedFor 1 = .ok (.istore_n 2, 1) := by decide +kernel
theorem dX14_isWaitedFor_2 : decode cX14_isWaitedFor 2 = .ok (.iload_n 2, 1) := by decide +kernel
theorem dX14_isWaitedFor_3 : decode cX14_isWaitedFor 3 = .ok (.aload_n 0, 1) := by decide +kernel
theorem dX14_isWaitedFor_4 : decode cX14_isWaitedFor 4 = .ok (.getfield 711, 3) := by decide +kernel
theorem dX14_isWaitedFor_7 : decode cX14_isWaitedFor 7 = .ok (.if_icmp .ge 21, 3) := by decide +kernel
theorem dX14_isWaitedFor_10 : decode cX14_isWaitedFor 10 = .ok (.aload_n 0, 1) := by decide +kernel
theorem dX14_isWaitedFor_11 : decode cX14_isWaitedFor 11 = .ok (.getfield 91, 3) := by decide +kernel
theorem dX14_isWaitedFor_14 : decode cX14_isWaitedFor 14 = .ok (.iload_n 2, 1) := by decide +kernel
theorem dX14_isWaitedFor_15 : decode cX14_isWaitedFor 15 = .ok (.aaload, 1) := by decide +kernel
theorem dX14_isWaitedFor_16 : decode cX14_isWaitedFor 16 = .ok (.aload_n 1, 1) := by decide +kernel
theorem dX14_isWaitedFor_17 : decode cX14_isWaitedFor 17 = .ok (.if_acmp .ne 5, 3) := by decide +kernel
theorem dX14_isWaitedFor_20 : decode cX14_isWaitedFor 20 = .ok (.iconst 1, 1) := by decide +kernel
theorem dX14_isWaitedFor_21 : decode cX14_isWaitedFor 21 = .ok (.ireturn, 1) := by decide +kernel
theorem dX14_isWaitedFor_22 : decode cX14_isWaitedFor 22 = .ok (.iinc 2 1, 3) := by decide +kernel
theorem dX14_isWaitedFor_25 : decode cX14_isWaitedFor 25 = .ok (.goto (-23), 3) := by decide +kernel
theorem dX14_isWaitedFor_28 : decode cX14_isWaitedFor 28 = .ok (.iconst 0, 1) := by decide +kernel
theorem dX14_isWaitedFor_29 : decode cX14_isWaitedFor 29 = .ok (.ireturn, 1) := by decide +kernel
theorem dX14_document_0 : decode cX14_document 0 = .ok (.iload_n 1, 1) := by decide +kernel
theorem dX14_document_1 : decode cX14_document 1 = .ok (.ifCond .lt 11, 3) := by decide +kernel
theorem dX14_document_4 : decode cX14_document 4 = .ok (.iload_n 1, 1) := by decide +kernel
theorem dX14_document_5 : decode cX14_document 5 = .ok (.aload_n 0, 1) := by decide +kernel
theorem dX14_document_6 : decode cX14_document 6 = .ok (.getfield 505, 3) := by decide +kernel
theorem dX14_document_9 : decode cX14_document 9 = .ok (.if_icmp .lt 5, 3) := by decide +kernel
theorem dX14_document_12 : decode cX14_document 12 = .ok (.iconst (-1), 1) := by decide +kernel
theorem dX14_document_13 : decode cX14_document 13 = .ok (.ireturn, 1) := by decide +kernel
theorem dX14_document_14 : decode cX14_document 14 = .ok (.aload_n 0, 1) := by decide +kernel
theorem dX14_document_15 : decode cX14_document 15 = .ok (.getfield 74, 3) := by decide +kernel
theorem dX14_document_18 : decode cX14_document 18 = .ok (.iload_n 1, 1) := by decide +kernel
theorem dX14_document_19 : decode cX14_document 19 = .ok (.aaload, 1) := by decide +kernel
theorem dX14_document_20 : decode cX14_document 20 = .ok (.astore_n 3, 1) := by decide +kernel
theorem dX14_document_21 : decode cX14_document 21 = .ok (.iload_n 2, 1) := by decide +kernel
theorem dX14_document_22 : decode cX14_document 22 = .ok (.ifCond .ne 10, 3) := by decide +kernel
theorem dX14_document_25 : decode cX14_document 25 = .ok (.aload_n 3, 1) := by decide +kernel
theorem dX14_document_26 : decode cX14_document 26 = .ok (.getfield 524, 3) := by decide +kernel
theorem dX14_document_29 : decode cX14_document 29 = .ok (.goto 40, 3) := by decide +kernel
theorem dX14_document_32 : decode cX14_document 32 = .ok (.iload_n 2, 1) := by decide +kernel
theorem dX14_document_33 : decode cX14_document 33 = .ok (.iconst 1, 1) := by decide +kernel
theorem dX14_document_34 : decode cX14_document 34 = .ok (.if_icmp .ne 10, 3) := by decide +kernel
theorem dX14_document_37 : decode cX14_document 37 = .ok (.aload_n 3, 1) := by decide +kernel
theorem dX14_document_38 : decode cX14_document 38 = .ok (.getfield 526, 3) := by decide +kernel
theorem dX14_document_41 : decode cX14_document 41 = .ok (.goto 28, 3) := by decide +kernel
theorem dX14_document_44 : decode cX14_document 44 = .ok (.iload_n 2, 1) := by decide +kernel
theorem dX14_document_45 : decode cX14_document 45 = .ok (.iconst 2, 1) := by decide +kernel
theorem dX14_document_46 : decode cX14_document 46 = .ok (.if_icmp .ne 10, 3) := by decide +kernel
theorem dX14_document_49 : decode cX14_document 49 = .ok (.aload_n 3, 1) := by decide +kernel
theorem dX14_document_50 : decode cX14_document 50 = .ok (.getfield 587, 3) := by decide +kernel
theorem dX14_document_53 : decode cX14_document 53 = .ok (.goto 16, 3) := by decide +kernel
theorem dX14_document_56 : decode cX14_document 56 = .ok (.iload_n 2, 1) := by decide +kernel
theorem dX14_document_57 : decode cX14_document 57 = .ok (.iconst 3, 1) := by decide +kernel
theorem dX14_document_58 : decode cX14_document 58 = .ok (.if_icmp .ne 10, 3) := by decide +kernel
theorem dX14_document_61 : decode cX14_document 61 = .ok (.aload_n 3, 1) := by decide +kernel
theorem dX14_document_62 : decode cX14_document 62 = .ok (.getfield 531, 3) := by decide +kernel
theorem dX14_document_65 : decode cX14_document 65 = .ok (.goto 4, 3) := by decide +kernel
theorem dX14_document_68 : decode cX14_document 68 = .ok (.iconst (-1), 1) := by decide +kernel
theorem dX14_document_69 : decode cX14_document 69 = .ok (.ireturn, 1) := by decide +kernel
def EX14_isWaitedFor : List (Nat × Nat) := []
def EX14_document : List (Nat × Nat) := []
def EX14_unit_ : List (Nat × Nat) := []
def EX14_part : List (Nat × Nat) := [(14, 5), (190, 0), (191, 0), (192, 0)]
def EX14_position : List (Nat × Nat) := [(16, 6), (101, 0)]
def EX14_inCache : List (Nat × Nat) := []
set_option maxHeartbeats 4000000 in
set_option maxRecDepth 20000 in
theorem uX14_isWaitedFor (l : Launch) (dC : Nat → ClassId) (dI : Nat → Nat → Nat) (ca : Nat → ClassId) (base : Nat) (B : jF) (hB : jBok B) (hAp : jAp (dC, dI)) (hB14 : ∀ n G a H, B 14 n G a H ↔ jOb (dC, dI) 14 11 (F14 n G) a H) (hB16 : ∀ n G a H, B 16 n G a H ↔ jOb (dC, dI) 16 74 (F16 n G) a H) (hB202 : ∀ n G a H, B 202 n G a H ↔ jAq (dC, dI) (ca 4) (jQn 14 0) n G a H) (G0 : jT) (H0 : Heap) (r0 : Nat) (r1 : Nat) : Met l yX14_isWaitedFor (jw yX14_isWaitedFor cX14_isWaitedFor 3 (some .boolean)) ({ frames := 0, cells := 0, slots := 0, locals := 0 }) (va_Pc [.ref r0, .ref r1] (fun U => U.heap = H0 ∧ jX B base G0 [] H0 ∧ jG dC dI ca base U ∧ jK2 dC dI ca U ∧ G0 r1 = some (14, 0) ∧ G0 r0 = some (16, 0) ∧ jP (dC, dI) G0 H0 [] ∧ True)) (va_Qi (S := Unit) (fun r u => (r = 0 ∨ r = 1) ∧ (True)) (fun u t => jRt (dC, dI) B base G0 EX14_isWaitedFor H0 [] t.heap) (jA base)) 0 0 (jA base) := by
  refine Met.ofW (cc := cX14_isWaitedFor) (maxL := 3) (ret := (some .boolean)) (by decide) rfl ?_
  intro p e s m args below meth c s₁ Bd hml hv
  obtain ⟨rfl, hH0, hX, hG, hK2, hg_r1, hg_r0, hP0, hp0⟩ := hv
  have hK := hG.1
  have hx := Bd.exec
  have hb := Bd.bytes
  have hr := Bd.returns
  have hts := atoms_spec (ws := (jw yX14_isWaitedFor cX14_isWaitedFor 3 (some .boolean))) Bd.pre
  have htw : ∀ w ∈ jWl, w.before _ s = true := fun w h => hts w (List.mem_cons_of_mem _ h)
  have hown : s.vm.findClass RX14 = some m.cls := findClass_of_methodNamed Bd.named
  have hlocks := Bd.notSynchronized
  obtain ⟨Q, hQ⟩ : ∃ Q, Q = MQ below (va_Qi (S := Unit) (fun r u => (r = 0 ∨ r = 1) ∧ (True)) (fun u t => jRt (dC, dI) B base G0 EX14_isWaitedFor H0 [] t.heap) (jA base)) ([.ref r0, .ref r1] : List Value).toArray s 0 0 (jA base) := ⟨_, rfl⟩
  rw [← hQ]
  have hl := lv_entry ([.ref r0, .ref r1]) (n := 3) (Nat.le_of_ble_eq_true rfl)
  rw [lg_entry_eq]
  generalize (lg_sl ([.ref r0, .ref r1]) ++ List.replicate (3 - (lg_sl ([.ref r0, .ref r1])).length) Slot.unset).toArray = ls at hl ⊢
  have hl : lv_has ls 3 [(0, .ref r0), (1, .ref r1)] := hl
  generalize hR : (headSpec (jw yX14_isWaitedFor cX14_isWaitedFor 3 (some .boolean)) ({ frames := 0, cells := 0, slots := 0, locals := 0 })).room = R
  subst hH0
  have hh : jSt (dC, dI) B base G0 G0 EX14_isWaitedFor s.heap 0 0 [] [] [] s.heap [] := jSt.start hX hP0 jMc.nil jIs.nil
  clear hX hP0
  have hk0 : (0 : Int32).toInt = 0 := by decide
  have hk1 : (1 : Int32).toInt = 1 := by decide
  have hly_16_48 := htw (u_lay RX14 TX14 48) (jWc_wsX140 _ (u_in_lay (by decide)))
  have hly_16_49 := htw (u_lay RX14 TX14 49) (jWc_wsX140 _ (u_in_lay (by decide)))
  have hlk_711 := (htw (.fieldLink RX14 711 "ProofServerModel" "waits" "I") (jWr_58 _ (List.mem_of_getElem? (i := 11) rfl)))
  have hlk_91 := (htw (.fieldLink RX14 91 "ProofServerModel" "waitOf" "[LProofServerModel$Document;") (jWr_12 _ (List.mem_of_getElem? (i := 0) rfl)))
  refine lv_iconst (v := 0) hx hb dX14_isWaitedFor_0 (by decide) ?_
  refine lv_istore_n (lv' := [(2, .int 0), (0, .ref r0), (1, .ref r1)]) hx hb dX14_isWaitedFor_1 rfl hl (by decide) rfl (fun ls hl => ?_)
  obtain ⟨v_1, hv_1, hh_2⟩ := hh.pin (C := RX14) (T := TX14) (N := 74) hB16 rfl (by decide) hg_r0 (i := 48) (by decide) rfl
  obtain ⟨waits_3, rfl, hlowaits_3, hhiwaits_3⟩ := hv_1
  have L2 : ∀ (N : Nat) (v2_4 : Int32) (H_4 : Heap) (locs_4 : List Loc), jSt (dC, dI) B base G0 G0 EX14_isWaitedFor s.heap 0 0 [(r0, 16, 48, .int waits_3)] [] [] H_4 locs_4 → (0 ≤ v2_4.toInt ∧ v2_4.toInt ≤ waits_3.toInt) → (waits_3.toInt - v2_4.toInt : Int) < N → ∀ ls : Array Slot, lv_has ls 3 [(0, .ref r0), (1, .ref r1), (2, .int v2_4)] → W p l e R s m ([.ref r0, .ref r1] : List Value).toArray below meth c H_4 locs_4 0 0 Q (F0 m 2 ls []) := by
    intro N
    induction N with
    | zero => intro v2_4 H_4 locs_4 hh_4  hi_4 hm; exact absurd hm (by omega)
    | succ N L2 =>
      intro v2_4 H_4 locs_4 hh_4  hi_4 hm_4 ls hl
      obtain ⟨hi_4_0, hi_4_1⟩ := hi_4
      refine lv_iload_n hx hb dX14_isWaitedFor_2 rfl (lv_at hl 2 rfl) ?_
      refine lv_aload_n hx hb dX14_isWaitedFor_3 rfl (lv_at hl 0 rfl) ?_
      refine j7_read hx hb hown hK (C := RX14) (T := TX14) (N := 74) rfl hly_16_48 hlk_711 (hh_4.at 0 rfl) dX14_isWaitedFor_4 ?_
      refine lv_icmp_ge (tgt := 28) hx hb dX14_isWaitedFor_7 (by decide) (fun c_5 => ?_) (fun c_5 => ?_)
      · skip
        have c_5' : v2_4.toInt ≥ waits_3.toInt := jb_ge (rfl) (rfl) c_5
        refine lv_iconst (v := 0) hx hb dX14_isWaitedFor_28 (by decide) ?_
        rw [hQ]
        exact W.zret (v := 0) hx hb hr (jb_nz (Or.inl rfl)) (fun t ht hW => ⟨⟨0, (), rfl, ⟨(Or.inl rfl), trivial⟩, hh_4.rt (M1 := []) [] rfl ht⟩, by rw [ht]; try exact hh_4.1.1, fun q h9 hq => by rw [ht]; try exact hh_4.1.2.1 q h9 hq⟩) hh_4.1.2.2 dX14_isWaitedFor_29
      · skip
        have c_5' : v2_4.toInt < waits_3.toInt := jb_ge_n (rfl) (rfl) c_5
        refine lv_aload_n hx hb dX14_isWaitedFor_10 rfl (lv_at hl 0 rfl) ?_
        obtain ⟨v_6, hv_6, hh_7⟩ := hh_4.pin (C := RX14) (T := TX14) (N := 74) hB16 rfl (by decide) hg_r0 (i := 49) (by decide) rfl
        clear hh_4
        obtain ⟨waitOf_8, rfl, hg_waitOf_8⟩ := hv_6
        refine j7_read hx hb hown hK (C := RX14) (T := TX14) (N := 74) rfl hly_16_49 hlk_91 (hh_7.at 0 rfl) dX14_isWaitedFor_11 ?_
        refine lv_iload_n hx hb dX14_isWaitedFor_14 rfl (lv_at hl 2 rfl) ?_
        refine j7_qald hx hb hK2 hh_7 hB202 0 rfl (by decide) hg_waitOf_8 (x := v2_4.toInt) (rfl) (by omega) dX14_isWaitedFor_15 (fun o_9 ho_9 => ?_)
        rcases ho_9 with rfl | ⟨el_10, rfl, hg_el_10⟩
        · simp only [va_rf]
          refine lv_aload_n hx hb dX14_isWaitedFor_16 rfl (lv_at hl 1 rfl) ?_
          refine lv_acmp_ne (rx := none) (ry := (some r1)) (tgt := 22) hx hb dX14_isWaitedFor_17 (by decide) (fun c_11 => ?_) (fun c_11 => ?_)
          · skip
            obtain ⟨z_12, ez_12⟩ : ∃ y : Int32, y = v2_4 + 1 := ⟨_, rfl⟩
            refine lv_iinc (v := z_12) (lv' := [(2, .int z_12), (0, .ref r0), (1, .ref r1)]) hx hb dX14_isWaitedFor_22 hl (k := 2) rfl (by rw [ez_12]; rfl) (by decide) rfl (fun ls hl => ?_)
            have hz_12 : z_12.toInt = v2_4.toInt + 1 := by rw [ez_12]; exact jb_iadd2 (rfl) (by decide) (by omega)
            refine lv_goto (tgt := 2) hx hb dX14_isWaitedFor_25 (by decide) ?_
            exact L2 z_12 _ _ (hh_7.sub (L1 := [(r0, 16, 48, .int waits_3)]) [1] rfl (M1 := []) [] rfl (I1 := []) [] rfl) (by first | omega | (refine ⟨?_, ?_⟩ <;> (first | omega | rfl | assumption | decide | exact Or.inl rfl | exact Or.inr rfl | (simp only; omega)))) (by omega) _ (lv_sub hl [1, 2, 0] rfl)
          · skip
            cases c_11
        · simp only [va_rf]
          refine lv_aload_n hx hb dX14_isWaitedFor_16 rfl (lv_at hl 1 rfl) ?_
          refine lv_acmp_ne (rx := (some el_10)) (ry := (some r1)) (tgt := 22) hx hb dX14_isWaitedFor_17 (by decide) (fun c_13 => ?_) (fun c_13 => ?_)
          · skip
            obtain ⟨z_14, ez_14⟩ : ∃ y : Int32, y = v2_4 + 1 := ⟨_, rfl⟩
            refine lv_iinc (v := z_14) (lv' := [(2, .int z_14), (0, .ref r0), (1, .ref r1)]) hx hb dX14_isWaitedFor_22 hl (k := 2) rfl (by rw [ez_14]; rfl) (by decide) rfl (fun ls hl => ?_)
            have hz_14 : z_14.toInt = v2_4.toInt + 1 := by rw [ez_14]; exact jb_iadd2 (rfl) (by decide) (by omega)
            refine lv_goto (tgt := 2) hx hb dX14_isWaitedFor_25 (by decide) ?_
            exact L2 z_14 _ _ (hh_7.sub (L1 := [(r0, 16, 48, .int waits_3)]) [1] rfl (M1 := []) [] rfl (I1 := []) [] rfl) (by first | omega | (refine ⟨?_, ?_⟩ <;> (first | omega | rfl | assumption | decide | exact Or.inl rfl | exact Or.inr rfl | (simp only; omega)))) (by omega) _ (lv_sub hl [1, 2, 0] rfl)
          · skip
            refine lv_iconst (v := 1) hx hb dX14_isWaitedFor_20 (by decide) ?_
            rw [hQ]
            exact W.zret (v := 1) hx hb hr (jb_nz (Or.inr rfl)) (fun t ht hW => ⟨⟨1, (), rfl, ⟨(Or.inr rfl), trivial⟩, hh_7.rt (M1 := []) [] rfl ht⟩, by rw [ht]; try exact hh_7.1.1, fun q h9 hq => by rw [ht]; try exact hh_7.1.2.1 q h9 hq⟩) hh_7.1.2.2 dX14_isWaitedFor_21
  exact L2 (waits_3.toInt - (0 : Int32).toInt : Int).toNat.succ 0 _ _ hh_2 (by first | omega | (refine ⟨?_, ?_⟩ <;> (first | omega | rfl | assumption | decide | exact Or.inl rfl | exact Or.inr rfl | (simp only; omega)))) (by omega) _ (lv_sub hl [1, 2, 0] rfl)
set_option maxHeartbeats 4000000 in
set_option maxRecDepth 20000 in
theorem uX14_document (l : Launch) (dC : Nat → ClassId) (dI : Nat → Nat → Nat) (ca : Nat → ClassId) (base : Nat) (B : jF) (hB : jBok B) (hAp : jAp (dC, dI)) (hB14 : ∀ n G a H, B 14 n G a H ↔ jOb (dC, dI) 14 11 (F14 n G) a H) (hB16 : ∀ n G a H, B 16 n G a H ↔ jOb (dC, dI) 16 74 (F16 n G) a H) (hB201 : ∀ n G a H, B 201 n G a H ↔ jAq (dC, dI) (ca 4) (jQs 14 0) n G a H) (G0 : jT) (H0 : Heap) (r0 : Nat) (a1 : Int32) (a2 : Int32) : Met l yX14_document (jw yX14_document cX14_document 4 (some .int)) ({ frames := 0, cells := 0, slots := 0, locals := 0 }) (va_Pc [.ref r0, .int a1, .int a2] (fun U => U.heap = H0 ∧ jX B base G0 [] H0 ∧ jG dC dI ca base U ∧ jK2 dC dI ca U ∧ G0 r0 = some (16, 0) ∧ jP (dC, dI) G0 H0 [] ∧ True)) (va_Qi (S := Unit) (fun r u => (True)) (fun u t => jRt (dC, dI) B base G0 EX14_document H0 [] t.heap) (jA base)) 0 0 (jA base) := by
  refine Met.ofW (cc := cX14_document) (maxL := 4) (ret := (some .int)) (by decide) rfl ?_
  intro p e s m args below meth c s₁ Bd hml hv
  obtain ⟨rfl, hH0, hX, hG, hK2, hg_r0, hP0, hp0⟩ := hv
  have hK := hG.1
  have hx := Bd.exec
  have hb := Bd.bytes
  have hr := Bd.returns
  have hts := atoms_spec (ws := (jw yX14_document cX14_document 4 (some .int))) Bd.pre
  have htw : ∀ w ∈ jWl, w.before _ s = true := fun w h => hts w (List.mem_cons_of_mem _ h)
  have hown : s.vm.findClass RX14 = some m.cls := findClass_of_methodNamed Bd.named
  have hlocks := Bd.notSynchronized
  obtain ⟨Q, hQ⟩ : ∃ Q, Q = MQ below (va_Qi (S := Unit) (fun r u => (True)) (fun u t => jRt (dC, dI) B base G0 EX14_document H0 [] t.heap) (jA base)) ([.ref r0, .int a1, .int a2] : List Value).toArray s 0 0 (jA base) := ⟨_, rfl⟩
  rw [← hQ]
  have hl := lv_entry ([.ref r0, .int a1, .int a2]) (n := 4) (Nat.le_of_ble_eq_true rfl)
  rw [lg_entry_eq]
  generalize (lg_sl ([.ref r0, .int a1, .int a2]) ++ List.replicate (4 - (lg_sl ([.ref r0, .int a1, .int a2])).length) Slot.unset).toArray = ls at hl ⊢
  have hl : lv_has ls 4 [(0, .ref r0), (1, .int a1), (2, .int a2)] := hl
  generalize hR : (headSpec (jw yX14_document cX14_document 4 (some .int)) ({ frames := 0, cells := 0, slots := 0, locals := 0 })).room = R
  subst hH0
  have hh : jSt (dC, dI) B base G0 G0 EX14_document s.heap 0 0 [] [] [] s.heap [] := jSt.start hX hP0 jMc.nil jIs.nil
  clear hX hP0
  have hkm1 : ((-1) : Int32).toInt = (-1) := by decide
  have hk0 : (0 : Int32).toInt = 0 := by decide
  have hk1 : (1 : Int32).toInt = 1 := by decide
  have hk2 : (2 : Int32).toInt = 2 := by decide
  have hk3 : (3 : Int32).toInt = 3 := by decide
  have hly_14_2 := htw (u_lay RX12 TX12 2) (jWc_wsX120 _ (u_in_lay (by decide)))
  have hly_14_4 := htw (u_lay RX12 TX12 4) (jWc_wsX120 _ (u_in_lay (by decide)))
  have hly_14_5 := htw (u_lay RX12 TX12 5) (jWc_wsX120 _ (u_in_lay (by decide)))
  have hly_14_9 := htw (u_lay RX12 TX12 9) (jWc_wsX120 _ (u_in_lay (by decide)))
  have hly_16_41 := htw (u_lay RX14 TX14 41) (jWc_wsX140 _ (u_in_lay (by decide)))
  have hly_16_42 := htw (u_lay RX14 TX14 42) (jWc_wsX140 _ (u_in_lay (by decide)))
  have hlk_505 := (htw (.fieldLink RX14 505 "ProofServerModel" "documentCount" "I") (jWr_57 _ (List.mem_of_getElem? (i := 5) rfl)))
  have hlk_74 := (htw (.fieldLink RX14 74 "ProofServerModel" "documents" "[LProofServerModel$Document;") (jWr_11 _ (List.mem_of_getElem? (i := 19) rfl)))
  have hlk_524 := (va_Nw.use (A := ([.ref r0, .int a1, .int a2] : List Value).toArray) rfl (hG.2.1 RX14 524 "ProofServerModel$Document" "version" "I" "ProofServerModel" (List.mem_of_getElem? (i := 1733) (by decide +kernel))))
  have hlk_526 := (va_Nw.use (A := ([.ref r0, .int a1, .int a2] : List Value).toArray) rfl (hG.2.1 RX14 526 "ProofServerModel$Document" "units" "I" "ProofServerModel" (List.mem_of_getElem? (i := 1736) (by decide +kernel))))
  have hlk_587 := (va_Nw.use (A := ([.ref r0, .int a1, .int a2] : List Value).toArray) rfl (hG.2.1 RX14 587 "ProofServerModel$Document" "sentences" "I" "ProofServerModel" (List.mem_of_getElem? (i := 1737) (by decide +kernel))))
  have hlk_531 := (va_Nw.use (A := ([.ref r0, .int a1, .int a2] : List Value).toArray) rfl (hG.2.1 RX14 531 "ProofServerModel$Document" "checked" "I" "ProofServerModel" (List.mem_of_getElem? (i := 1744) (by decide +kernel))))
  have hrg_a1 := jb_rng a1
  have hrg_a2 := jb_rng a2
  refine lv_iload_n hx hb dX14_document_0 rfl (lv_at hl 1 rfl) ?_
  refine lv_if_lt (tgt := 12) hx hb dX14_document_1 (by decide) (fun c_1 => ?_) (fun c_1 => ?_)
  · skip
    have c_1' : a1.toInt < 0 := jb_lt (rfl) ((by decide)) c_1
    refine lv_iconst (v := (-1)) hx hb dX14_document_12 (by decide) ?_
    rw [hQ]
    exact W.iret (v := (-1)) hx hb hr (fun t ht hW => ⟨⟨(-1), (), rfl, trivial, hh.rt (M1 := []) [] rfl ht⟩, by rw [ht]; try exact hh.1.1, fun q h9 hq => by rw [ht]; try exact hh.1.2.1 q h9 hq⟩) hh.1.2.2 dX14_document_13
  · skip
    have c_1' : a1.toInt ≥ 0 := jb_lt_n (rfl) ((by decide)) c_1
    refine lv_iload_n hx hb dX14_document_4 rfl (lv_at hl 1 rfl) ?_
    refine lv_aload_n hx hb dX14_document_5 rfl (lv_at hl 0 rfl) ?_
    obtain ⟨v_2, hv_2, hh_3⟩ := hh.pin (C := RX14) (T := TX14) (N := 74) hB16 rfl (by decide) hg_r0 (i := 42) (by decide) rfl
    clear hh
    obtain ⟨documentCount_4, rfl, hlodocumentCount_4, hhidocumentCount_4⟩ := hv_2
    refine j7_read hx hb hown hK (C := RX14) (T := TX14) (N := 74) rfl hly_16_42 hlk_505 (hh_3.at 0 rfl) dX14_document_6 ?_
    refine lv_icmp_lt (tgt := 14) hx hb dX14_document_9 (by decide) (fun c_5 => ?_) (fun c_5 => ?_)
    · skip
      have c_5' : a1.toInt < documentCount_4.toInt := jb_lt (rfl) (rfl) c_5
      refine lv_aload_n hx hb dX14_document_14 rfl (lv_at hl 0 rfl) ?_
      obtain ⟨v_6, hv_6, hh_7⟩ := hh_3.pin (C := RX14) (T := TX14) (N := 74) hB16 rfl (by decide) hg_r0 (i := 41) (by decide) rfl
      clear hh_3
      obtain ⟨documents_8, rfl, hg_documents_8⟩ := hv_6
      refine j7_read hx hb hown hK (C := RX14) (T := TX14) (N := 74) rfl hly_16_41 hlk_74 (hh_7.at 0 rfl) dX14_document_15 ?_
      refine lv_iload_n hx hb dX14_document_18 rfl (lv_at hl 1 rfl) ?_
      refine j7_qald hx hb hK2 hh_7 hB201 0 rfl (by decide) hg_documents_8 (x := a1.toInt) (rfl) (by omega) dX14_document_19 (fun o_9 ho_9 => ?_)
      obtain ⟨el_10, rfl, hg_el_10⟩ := ho_9
      simp only [va_rf]
      refine lv_astore_n (lv' := [(3, .ref el_10), (0, .ref r0), (1, .int a1), (2, .int a2)]) hx hb dX14_document_20 rfl hl (by decide) rfl (fun ls hl => ?_)
      refine lv_iload_n hx hb dX14_document_21 rfl (lv_at hl 3 rfl) ?_
      refine lv_if_ne (tgt := 32) hx hb dX14_document_22 (by decide) (fun c_11 => ?_) (fun c_11 => ?_)
      · skip
        have c_11' : a2.toInt ≠ 0 := jb_ne (rfl) ((by decide)) c_11
        refine lv_iload_n hx hb dX14_document_32 rfl (lv_at hl 3 rfl) ?_
        refine lv_iconst (v := 1) hx hb dX14_document_33 (by decide) ?_
        refine lv_icmp_ne (tgt := 44) hx hb dX14_document_34 (by decide) (fun c_12 => ?_) (fun c_12 => ?_)
        · skip
          have c_12' : a2.toInt ≠ 1 := jb_ne (rfl) ((by decide)) c_12
          refine lv_iload_n hx hb dX14_document_44 rfl (lv_at hl 3 rfl) ?_
          refine lv_iconst (v := 2) hx hb dX14_document_45 (by decide) ?_
          refine lv_icmp_ne (tgt := 56) hx hb dX14_document_46 (by decide) (fun c_13 => ?_) (fun c_13 => ?_)
          · skip
            have c_13' : a2.toInt ≠ 2 := jb_ne (rfl) ((by decide)) c_13
            refine lv_iload_n hx hb dX14_document_56 rfl (lv_at hl 3 rfl) ?_
            refine lv_iconst (v := 3) hx hb dX14_document_57 (by decide) ?_
            refine lv_icmp_ne (tgt := 68) hx hb dX14_document_58 (by decide) (fun c_14 => ?_) (fun c_14 => ?_)
            · skip
              have c_14' : a2.toInt ≠ 3 := jb_ne (rfl) ((by decide)) c_14
              refine lv_iconst (v := (-1)) hx hb dX14_document_68 (by decide) ?_
              rw [hQ]
              exact W.iret (v := (-1)) hx hb hr (fun t ht hW => ⟨⟨(-1), (), rfl, trivial, hh_7.rt (M1 := []) [] rfl ht⟩, by rw [ht]; try exact hh_7.1.1, fun q h9 hq => by rw [ht]; try exact hh_7.1.2.1 q h9 hq⟩) hh_7.1.2.2 dX14_document_69
            · skip
              have c_14' : a2.toInt = 3 := jb_ne_n (rfl) ((by decide)) c_14
              refine lv_aload_n hx hb dX14_document_61 rfl (lv_at hl 0 rfl) ?_
              obtain ⟨v_15, hv_15, hh_16⟩ := hh_7.pin (C := RX12) (T := TX12) (N := 11) hB14 rfl (by decide) hg_el_10 (i := 9) (by decide) rfl
              clear hh_7
              obtain ⟨checked_17, rfl, hlochecked_17, hhichecked_17⟩ := hv_15
              refine j7_readN hx hb hown hK (C := RX12) (T := TX12) (N := 11) rfl hly_14_9 hlk_531 (hh_16.at 0 rfl) dX14_document_62 ?_
              refine lv_goto (tgt := 69) hx hb dX14_document_65 (by decide) ?_
              rw [hQ]
              exact W.iret (v := checked_17) hx hb hr (fun t ht hW => ⟨⟨checked_17, (), rfl, trivial, hh_16.rt (M1 := []) [] rfl ht⟩, by rw [ht]; try exact hh_16.1.1, fun q h9 hq => by rw [ht]; try exact hh_16.1.2.1 q h9 hq⟩) hh_16.1.2.2 dX14_document_69
          · skip
            have c_13' : a2.toInt = 2 := jb_ne_n (rfl) ((by decide)) c_13
            refine lv_aload_n hx hb dX14_document_49 rfl (lv_at hl 0 rfl) ?_
            obtain ⟨v_18, hv_18, hh_19⟩ := hh_7.pin (C := RX12) (T := TX12) (N := 11) hB14 rfl (by decide) hg_el_10 (i := 5) (by decide) rfl
            clear hh_7
            obtain ⟨sentences_20, rfl, hlosentences_20, hhisentences_20⟩ := hv_18
            refine j7_readN hx hb hown hK (C := RX12) (T := TX12) (N := 11) rfl hly_14_5 hlk_587 (hh_19.at 0 rfl) dX14_document_50 ?_
            refine lv_goto (tgt := 69) hx hb dX14_document_53 (by decide) ?_
            rw [hQ]
            exact W.iret (v := sentences_20) hx hb hr (fun t ht hW => ⟨⟨sentences_20, (), rfl, trivial, hh_19.rt (M1 := []) [] rfl ht⟩, by rw [ht]; try exact hh_19.1.1, fun q h9 hq => by rw [ht]; try exact hh_19.1.2.1 q h9 hq⟩) hh_19.1.2.2 dX14_document_69
        · skip
          have c_12' : a2.toInt = 1 := jb_ne_n (rfl) ((by decide)) c_12
          refine lv_aload_n hx hb dX14_document_37 rfl (lv_at hl 0 rfl) ?_
          obtain ⟨v_21, hv_21, hh_22⟩ := hh_7.pin (C := RX12) (T := TX12) (N := 11) hB14 rfl (by decide) hg_el_10 (i := 4) (by decide) rfl
          clear hh_7
          obtain ⟨units_23, rfl, hlounits_23, hhiunits_23⟩ := hv_21
          refine j7_readN hx hb hown hK (C := RX12) (T := TX12) (N := 11) rfl hly_14_4 hlk_526 (hh_22.at 0 rfl) dX14_document_38 ?_
          refine lv_goto (tgt := 69) hx hb dX14_document_41 (by decide) ?_
          rw [hQ]
          exact W.iret (v := units_23) hx hb hr (fun t ht hW => ⟨⟨units_23, (), rfl, trivial, hh_22.rt (M1 := []) [] rfl ht⟩, by rw [ht]; try exact hh_22.1.1, fun q h9 hq => by rw [ht]; try exact hh_22.1.2.1 q h9 hq⟩) hh_22.1.2.2 dX14_document_69
      · skip
        have c_11' : a2.toInt = 0 := jb_ne_n (rfl) ((by decide)) c_11
        refine lv_aload_n hx hb dX14_document_25 rfl (lv_at hl 0 rfl) ?_
        obtain ⟨v_24, hv_24, hh_25⟩ := hh_7.pin (C := RX12) (T := TX12) (N := 11) hB14 rfl (by decide) hg_el_10 (i := 2) (by decide) rfl
        clear hh_7
        obtain ⟨version_26, rfl⟩ := hv_24
        refine j7_readN hx hb hown hK (C := RX12) (T := TX12) (N := 11) rfl hly_14_2 hlk_524 (hh_25.at 0 rfl) dX14_document_26 ?_
        refine lv_goto (tgt := 69) hx hb dX14_document_29 (by decide) ?_
        rw [hQ]
        exact W.iret (v := version_26) hx hb hr (fun t ht hW => ⟨⟨version_26, (), rfl, trivial, hh_25.rt (M1 := []) [] rfl ht⟩, by rw [ht]; try exact hh_25.1.1, fun q h9 hq => by rw [ht]; try exact hh_25.1.2.1 q h9 hq⟩) hh_25.1.2.2 dX14_document_69
    · skip
      have c_5' : a1.toInt ≥ documentCount_4.toInt := jb_lt_n (rfl) (rfl) c_5
      refine lv_iconst (v := (-1)) hx hb dX14_document_12 (by decide) ?_
      rw [hQ]
      exact W.iret (v := (-1)) hx hb hr (fun t ht hW => ⟨⟨(-1), (), rfl, trivial, hh_3.rt (M1 := []) [] rfl ht⟩, by rw [ht]; try exact hh_3.1.1, fun q h9 hq => by rw [ht]; try exact hh_3.1.2.1 q h9 hq⟩) hh_3.1.2.2 dX14_document_13
set_option maxHeartbeats 4000000 in
set_option maxRecDepth 20000 in
theorem uX14_unit_ (l : Launch) (dC : Nat → ClassId) (dI : Nat → Nat → Nat) (ca : Nat → ClassId) (base : Nat) (B : jF) (hB : jBok B) (hAp : jAp (dC, dI)) (hB14 : ∀ n G a H, B 14 n G a H ↔ jOb (dC, dI) 14 11 (F14 n G) a H) (hB16 : ∀ n G a H, B 16 n G a H ↔ jOb (dC, dI) 16 74 (F16 n G) a H) (hB101 : ∀ n G a H, B 101 n G a H ↔ jAr (dC, dI) (ca 1) (fun j z => True) n a H) (hB201 : ∀ n G a H, B 201 n G a H ↔ jAq (dC, dI) (ca 4) (jQs 14 0) n G a H) (G0 : jT) (H0 : Heap) (r0 : Nat) (a1 : Int32) (a2 : Int32) : Met l yX14_unit_ (jw yX14_unit_ cX14_unit_ 3 (some .int)) ({ frames := 0, cells := 0, slots := 0, locals := 0 }) (va_Pc [.ref r0, .int a1, .int a2] (fun U => U.heap = H0 ∧ jX B base G0 [] H0 ∧ jG dC dI ca base U ∧ jK2 dC dI ca U ∧ G0 r0 = some (16, 0) ∧ jP (dC, dI) G0 H0 [] ∧ True)) (va_Qi (S := Unit) (fun r u => (True)) (fun u t => jRt (dC, dI) B base G0 EX14_unit_ H0 [] t.heap) (jA base)) 0 0 (jA base) := by
  refine Met.ofW (cc := cX14_unit_) (maxL := 3) (ret := (some .int)) (by decide) rfl ?_
  intro p e s m args below meth c s₁ Bd hml hv
  obtain ⟨rfl, hH0, hX, hG, hK2, hg_r0, hP0, hp0⟩ := hv
  have hK := hG.1
  have hx := Bd.exec
  have hb := Bd.bytes
  have hr := Bd.returns
  have hts := atoms_spec (ws := (jw yX14_unit_ cX14_unit_ 3 (some .int))) Bd.pre
  have htw : ∀ w ∈ jWl, w.before _ s = true := fun w h => hts w (List.mem_cons_of_mem _ h)
  have hown : s.vm.findClass RX14 = some m.cls := findClass_of_methodNamed Bd.named
  have hlocks := Bd.notSynchronized
  obtain ⟨Q, hQ⟩ : ∃ Q, Q = MQ below (va_Qi (S := Unit) (fun r u => (True)) (fun u t => jRt (dC, dI) B base G0 EX14_unit_ H0 [] t.heap) (jA base)) ([.ref r0, .int a1, .int a2] : List Value).toArray s 0 0 (jA base) := ⟨_, rfl⟩
  rw [← hQ]
  have hl := lv_entry ([.ref r0, .int a1, .int a2]) (n := 3) (Nat.le_of_ble_eq_true rfl)
  rw [lg_entry_eq]
  generalize (lg_sl ([.ref r0, .int a1, .int a2]) ++ List.replicate (3 - (lg_sl ([.ref r0, .int a1, .int a2])).length) Slot.unset).toArray = ls at hl ⊢
  have hl : lv_has ls 3 [(0, .ref r0), (1, .int a1), (2, .int a2)] := hl
  generalize hR : (headSpec (jw yX14_unit_ cX14_unit_ 3 (some .int)) ({ frames := 0, cells := 0, slots := 0, locals := 0 })).room = R
  subst hH0
  have hh : jSt (dC, dI) B base G0 G0 EX14_unit_ s.heap 0 0 [] [] [] s.heap [] := jSt.start hX hP0 jMc.nil jIs.nil
  clear hX hP0
  have hkm1 : ((-1) : Int32).toInt = (-1) := by decide
  have hk0 : (0 : Int32).toInt = 0 := by decide
  have hk1 : (1 : Int32).toInt = 1 := by decide
  have hly_14_3 := htw (u_lay RX12 TX12 3) (jWc_wsX120 _ (u_in_lay (by decide)))
  have hly_14_4 := htw (u_lay RX12 TX12 4) (jWc_wsX120 _ (u_in_lay (by decide)))
  have hly_16_41 := htw (u_lay RX14 TX14 41) (jWc_wsX140 _ (u_in_lay (by decide)))
  have hly_16_42 := htw (u_lay RX14 TX14 42) (jWc_wsX140 _ (u_in_lay (by decide)))
  have hlk_505 := (htw (.fieldLink RX14 505 "ProofServerModel" "documentCount" "I") (jWr_57 _ (List.mem_of_getElem? (i := 5) rfl)))
  have hlk_74 := (htw (.fieldLink RX14 74 "ProofServerModel" "documents" "[LProofServerModel$Document;") (jWr_11 _ (List.mem_of_getElem? (i := 19) rfl)))
  have hlk_526 := (va_Nw.use (A := ([.ref r0, .int a1, .int a2] : List Value).toArray) rfl (hG.2.1 RX14 526 "ProofServerModel$Document" "units" "I" "ProofServerModel" (List.mem_of_getElem? (i := 1736) (by decide +kernel))))
  have hlk_529 := (va_Nw.use (A := ([.ref r0, .int a1, .int a2] : List Value).toArray) rfl (hG.2.1 RX14 529 "ProofServerModel$Document" "text" "[I" "ProofServerModel" (List.mem_of_getElem? (i := 1735) (by decide +kernel))))
  have hrg_a1 := jb_rng a1
  have hrg_a2 := jb_rng a2
  refine lv_iload_n hx hb dX14_unit__0 rfl (lv_at hl 1 rfl) ?_
  refine lv_if_lt (tgt := 43) hx hb dX14_unit__1 (by decide) (fun c_1 => ?_) (fun c_1 => ?_)
  · skip
    have c_1' : a1.toInt < 0 := jb_lt (rfl) ((by decide)) c_1
    refine lv_iconst (v := (-1)) hx hb dX14_unit__43 (by decide) ?_
    rw [hQ]
    exact W.iret (v := (-1)) hx hb hr (fun t ht hW => ⟨⟨(-1), (), rfl, trivial, hh.rt (M1 := []) [] rfl ht⟩, by rw [ht]; try exact hh.1.1, fun q h9 hq => by rw [ht]; try exact hh.1.2.1 q h9 hq⟩) hh.1.2.2 dX14_unit__44
  · skip
    have c_1' : a1.toInt ≥ 0 := jb_lt_n (rfl) ((by decide)) c_1
    refine lv_iload_n hx hb dX14_unit__4 rfl (lv_at hl 1 rfl) ?_
    refine lv_aload_n hx hb dX14_unit__5 rfl (lv_at hl 0 rfl) ?_
    obtain ⟨v_2, hv_2, hh_3⟩ := hh.pin (C := RX14) (T := TX14) (N := 74) hB16 rfl (by decide) hg_r0 (i := 42) (by decide) rfl
    clear hh
    obtain ⟨documentCount_4, rfl, hlodocumentCount_4, hhidocumentCount_4⟩ := hv_2
    refine j7_read hx hb hown hK (C := RX14) (T := TX14) (N := 74) rfl hly_16_42 hlk_505 (hh_3.at 0 rfl) dX14_unit__6 ?_
    refine lv_icmp_ge (tgt := 43) hx hb dX14_unit__9 (by decide) (fun c_5 => ?_) (fun c_5 => ?_)
    · skip
      have c_5' : a1.toInt ≥ documentCount_4.toInt := jb_ge (rfl) (rfl) c_5
      refine lv_iconst (v := (-1)) hx hb dX14_unit__43 (by decide) ?_
      rw [hQ]
      exact W.iret (v := (-1)) hx hb hr (fun t ht hW => ⟨⟨(-1), (), rfl, trivial, hh_3.rt (M1 := []) [] rfl ht⟩, by rw [ht]; try exact hh_3.1.1, fun q h9 hq => by rw [ht]; try exact hh_3.1.2.1 q h9 hq⟩) hh_3.1.2.2 dX14_unit__44
    · skip
      have c_5' : a1.toInt < documentCount_4.toInt := jb_ge_n (rfl) (rfl) c_5
      refine lv_iload_n hx hb dX14_unit__12 rfl (lv_at hl 2 rfl) ?_
      refine lv_if_lt (tgt := 43) hx hb dX14_unit__13 (by decide) (fun c_6 => ?_) (fun c_6 => ?_)
      · skip
        have c_6' : a2.toInt < 0 := jb_lt (rfl) ((by decide)) c_6
        refine lv_iconst (v := (-1)) hx hb dX14_unit__43 (by decide) ?_
        rw [hQ]
        exact W.iret (v := (-1)) hx hb hr (fun t ht hW => ⟨⟨(-1), (), rfl, trivial, hh_3.rt (M1 := []) [] rfl ht⟩, by rw [ht]; try exact hh_3.1.1, fun q h9 hq => by rw [ht]; try exact hh_3.1.2.1 q h9 hq⟩) hh_3.1.2.2 dX14_unit__44
      · skip
        have c_6' : a2.toInt ≥ 0 := jb_lt_n (rfl) ((by decide)) c_6
        refine lv_iload_n hx hb dX14_unit__16 rfl (lv_at hl 2 rfl) ?_
        refine lv_aload_n hx hb dX14_unit__17 rfl (lv_at hl 0 rfl) ?_
        obtain ⟨v_7, hv_7, hh_8⟩ := hh_3.pin (C := RX14) (T := TX14) (N := 74) hB16 rfl (by decide) hg_r0 (i := 41) (by decide) rfl
        clear hh_3
        obtain ⟨documents_9, rfl, hg_documents_9⟩ := hv_7
        refine j7_read hx hb hown hK (C := RX14) (T := TX14) (N := 74) rfl hly_16_41 hlk_74 (hh_8.at 0 rfl) dX14_unit__18 ?_
        refine lv_iload_n hx hb dX14_unit__21 rfl (lv_at hl 1 rfl) ?_
        refine j7_qald hx hb hK2 hh_8 hB201 0 rfl (by decide) hg_documents_9 (x := a1.toInt) (rfl) (by omega) dX14_unit__22 (fun o_10 ho_10 => ?_)
        obtain ⟨el_11, rfl, hg_el_11⟩ := ho_10
        simp only [va_rf]
        obtain ⟨v_12, hv_12, hh_13⟩ := hh_8.pin (C := RX12) (T := TX12) (N := 11) hB14 rfl (by decide) hg_el_11 (i := 4) (by decide) rfl
        clear hh_8
        obtain ⟨units_14, rfl, hlounits_14, hhiunits_14⟩ := hv_12
        refine j7_readN hx hb hown hK (C := RX12) (T := TX12) (N := 11) rfl hly_14_4 hlk_526 (hh_13.at 0 rfl) dX14_unit__23 ?_
        refine lv_icmp_ge (tgt := 43) hx hb dX14_unit__26 (by decide) (fun c_15 => ?_) (fun c_15 => ?_)
        · skip
          have c_15' : a2.toInt ≥ units_14.toInt := jb_ge (rfl) (rfl) c_15
          refine lv_iconst (v := (-1)) hx hb dX14_unit__43 (by decide) ?_
          rw [hQ]
          exact W.iret (v := (-1)) hx hb hr (fun t ht hW => ⟨⟨(-1), (), rfl, trivial, hh_13.rt (M1 := []) [] rfl ht⟩, by rw [ht]; try exact hh_13.1.1, fun q h9 hq => by rw [ht]; try exact hh_13.1.2.1 q h9 hq⟩) hh_13.1.2.2 dX14_unit__44
        · skip
          have c_15' : a2.toInt < units_14.toInt := jb_ge_n (rfl) (rfl) c_15
          refine lv_aload_n hx hb dX14_unit__29 rfl (lv_at hl 0 rfl) ?_
          refine j7_read hx hb hown hK (C := RX14) (T := TX14) (N := 74) rfl hly_16_41 hlk_74 (hh_13.at 1 rfl) dX14_unit__30 ?_
          refine lv_iload_n hx hb dX14_unit__33 rfl (lv_at hl 1 rfl) ?_
          refine j7_qald hx hb hK2 hh_13 hB201 0 rfl (by decide) hg_documents_9 (x := a1.toInt) (rfl) (by omega) dX14_unit__34 (fun o_16 ho_16 => ?_)
          obtain ⟨el_17, rfl, hg_el_17⟩ := ho_16
          simp only [va_rf]
          obtain ⟨v_18, hv_18, hh_19⟩ := hh_13.pin (C := RX12) (T := TX12) (N := 11) hB14 rfl (by decide) hg_el_17 (i := 3) (by decide) rfl
          clear hh_13
          obtain ⟨text_20, rfl, hg_text_20⟩ := hv_18
          refine j7_readN hx hb hown hK (C := RX12) (T := TX12) (N := 11) rfl hly_14_3 hlk_529 (hh_19.at 0 rfl) dX14_unit__35 ?_
          refine lv_iload_n hx hb dX14_unit__38 rfl (lv_at hl 2 rfl) ?_
          refine j7_iald hx hb hK hh_19 hB101 1 rfl (by decide) hg_text_20 (x := a2.toInt) (rfl) (by omega) dX14_unit__39 (fun z_21 (hz_21 : True) => ?_)
          refine lv_goto (tgt := 44) hx hb dX14_unit__40 (by decide) ?_
          rw [hQ]
          exact W.iret (v := z_21) hx hb hr (fun t ht hW => ⟨⟨z_21, (), rfl, trivial, hh_19.rt (M1 := []) [] rfl ht⟩, by rw [ht]; try exact hh_19.1.1, fun q h9 hq => by rw [ht]; try exact hh_19.1.2.1 q h9 hq⟩) hh_19.1.2.2 dX14_unit__44
set_option maxHeartbeats 4000000 in
set_option maxRecDepth 20000 in
theorem uX14_part (l : Launch) (dC : Nat → ClassId) (dI : Nat → Nat → Nat) (ca : Nat → ClassId) (base : Nat) (B : jF) (hB : jBok B) (hAp : jAp (dC, dI)) (hB14 : ∀ n G a H, B 14 n G a H ↔ jOb (dC, dI) 14 11 (F14 n G) a H) (hB101 : ∀ n G a H, B 101 n G a H ↔ jAr (dC, dI) (ca 1) (fun j z => True) n a H) (hB190 : ∀ n G a H, B 190 n G a H ↔ jAr (dC, dI) (ca 1) (fun j z => 0 ≤ z.toInt ∧ z.toInt ≤ 1500) n a H) (hB191 : ∀ n G a H, B 191 n G a H ↔ jAr (dC, dI) (ca 1) (fun j z => 0 ≤ z.toInt ∧ z.toInt ≤ 1500) n a H) (hB192 : ∀ n G a H, B 192 n G a H ↔ jAr (dC, dI) (ca 1) (fun j z => 0 ≤ z.toInt ∧ z.toInt ≤ 2) n a H) (G0 : jT) (H0 : Heap) (r0 : Nat) : Met l yX14_part (jw yX14_part cX14_part 6 none) ({ frames := 3, cells := 0, slots := 0, locals := 69 }) (va_Pc [.ref r0] (fun U => U.heap = H0 ∧ jX B base G0 [] H0 ∧ jG dC dI ca base U ∧ G0 r0 = some (14, 0) ∧ jP (dC, dI) G0 H0 [] ∧ True)) (va_Qv (S := Unit) (fun u => True) (fun u t => jRt (dC, dI) B base G0 EX14_part H0 [] t.heap) (jA base)) 0 0 (jA base) := by
  refine Met.ofW (cc := cX14_part) (maxL := 6) (ret := none) (by decide) rfl ?_
  intro p e s m args below meth c s₁ Bd hml hv
  obtain ⟨rfl, hH0, hX, hG, hg_r0, hP0, hp0⟩ := hv
  have hK := hG.1
  have hx := Bd.exec
  have hb := Bd.bytes
  have hr := Bd.returns
  have hts := atoms_spec (ws := (jw yX14_part cX14_part 6 none)) Bd.pre
  have htw : ∀ w ∈ jWl, w.before _ s = true := fun w h => hts w (List.mem_cons_of_mem _ h)
  have hown : s.vm.findClass RX14 = some m.cls := findClass_of_methodNamed Bd.named
  have hlocks := Bd.notSynchronized
  obtain ⟨Q, hQ⟩ : ∃ Q, Q = MQ below (va_Qv (S := Unit) (fun u => True) (fun u t => jRt (dC, dI) B base G0 EX14_part H0 [] t.heap) (jA base)) ([.ref r0] : List Value).toArray s 0 0 (jA base) := ⟨_, rfl⟩
  rw [← hQ]
  have hl := lv_entry ([.ref r0]) (n := 6) (Nat.le_of_ble_eq_true rfl)
  rw [lg_entry_eq]
  generalize (lg_sl ([.ref r0]) ++ List.replicate (6 - (lg_sl ([.ref r0])).length) Slot.unset).toArray = ls at hl ⊢
  have hl : lv_has ls 6 [(0, .ref r0)] := hl
  generalize hR : (headSpec (jw yX14_part cX14_part 6 none) ({ frames := 3, cells := 0, slots := 0, locals := 69 })).room = R
  subst hH0
  have hh : jSt (dC, dI) B base G0 G0 EX14_part s.heap 0 0 [] [] [] s.heap [] := jSt.start hX hP0 jMc.nil jIs.nil
  clear hX hP0
  have hk0 : (0 : Int32).toInt = 0 := by decide
  have hk1 : (1 : Int32).toInt = 1 := by decide
  have hk2 : (2 : Int32).toInt = 2 := by decide
  have hk39 : (39 : Int32).toInt = 39 := by decide
  have hly_14_3 := htw (u_lay RX12 TX12 3) (jWc_wsX120 _ (u_in_lay (by decide)))
  have hly_14_4 := htw (u_lay RX12 TX12 4) (jWc_wsX120 _ (u_in_lay (by decide)))
  have hly_14_5 := htw (u_lay RX12 TX12 5) (jWc_wsX120 _ (u_in_lay (by decide)))
  have hly_14_6 := htw (u_lay RX12 TX12 6) (jWc_wsX120 _ (u_in_lay (by decide)))
  have hly_14_7 := htw (u_lay RX12 TX12 7) (jWc_wsX120 _ (u_in_lay (by decide)))
  have hly_14_8 := htw (u_lay RX12 TX12 8) (jWc_wsX120 _ (u_in_lay (by decide)))
  have hlk_529 := (va_Nw.use (A := ([.ref r0] : List Value).toArray) rfl (hG.2.1 RX14 529 "ProofServerModel$Document" "text" "[I" "ProofServerModel" (List.mem_of_getElem? (i := 1735) (by decide +kernel))))
  have hlk_526 := (va_Nw.use (A := ([.ref r0] : List Value).toArray) rfl (hG.2.1 RX14 526 "ProofServerModel$Document" "units" "I" "ProofServerModel" (List.mem_of_getElem? (i := 1736) (by decide +kernel))))
  have hlk_587 := (va_Nw.use (A := ([.ref r0] : List Value).toArray) rfl (hG.2.1 RX14 587 "ProofServerModel$Document" "sentences" "I" "ProofServerModel" (List.mem_of_getElem? (i := 1737) (by decide +kernel))))
  have hlk_596 := (va_Nw.use (A := ([.ref r0] : List Value).toArray) rfl (hG.2.1 RX14 596 "ProofServerModel$Document" "begin" "[I" "ProofServerModel" (List.mem_of_getElem? (i := 1739) (by decide +kernel))))
  have hlk_599 := (va_Nw.use (A := ([.ref r0] : List Value).toArray) rfl (hG.2.1 RX14 599 "ProofServerModel$Document" "flaw" "[I" "ProofServerModel" (List.mem_of_getElem? (i := 1743) (by decide +kernel))))
  have hlk_594 := (va_Nw.use (A := ([.ref r0] : List Value).toArray) rfl (hG.2.1 RX14 594 "ProofServerModel$Document" "end" "[I" "ProofServerModel" (List.mem_of_getElem? (i := 1741) (by decide +kernel))))
  refine lv_aload_n hx hb dX14_part_0 rfl (lv_at hl 0 rfl) ?_
  obtain ⟨v_1, hv_1, hh_2⟩ := hh.pin (C := RX12) (T := TX12) (N := 11) hB14 rfl (by decide) hg_r0 (i := 3) (by decide) rfl
  clear hh
  obtain ⟨text_3, rfl, hg_text_3⟩ := hv_1
  refine j7_readN hx hb hown hK (C := RX12) (T := TX12) (N := 11) rfl hly_14_3 hlk_529 (hh_2.at 0 rfl) dX14_part_1 ?_
  refine lv_astore_n (lv' := [(1, .ref text_3), (0, .ref r0)]) hx hb dX14_part_4 rfl hl (by decide) rfl (fun ls hl => ?_)
  refine lv_aload_n hx hb dX14_part_5 rfl (lv_at hl 1 rfl) ?_
  obtain ⟨v_4, hv_4, hh_5⟩ := hh_2.pin (C := RX12) (T := TX12) (N := 11) hB14 rfl (by decide) hg_r0 (i := 4) (by decide) rfl
  clear hh_2
  obtain ⟨units_6, rfl, hlounits_6, hhiunits_6⟩ := hv_4
  refine j7_readN hx hb hown hK (C := RX12) (T := TX12) (N := 11) rfl hly_14_4 hlk_526 (hh_5.at 0 rfl) dX14_part_6 ?_
  refine lv_istore_n (lv' := [(2, .int units_6), (1, .ref text_3), (0, .ref r0)]) hx hb dX14_part_9 rfl hl (by decide) rfl (fun ls hl => ?_)
  refine lv_aload_n hx hb dX14_part_10 rfl (lv_at hl 2 rfl) ?_
  refine lv_iconst (v := 0) hx hb dX14_part_11 (by decide) ?_
  refine j7_putN hx hb hown hK hh_5 hB hAp hB14 (C := RX12) (T := TX12) (N := 11) rfl (by decide) hg_r0 (i := 5) (by decide) hly_14_5 rfl hlk_587 rfl (ty := .int) (v := .int 0) (by decide +kernel) rfl rfl (⟨_, rfl, by omega, by omega⟩) rfl (L1 := [(r0, 14, 4, .int units_6), (r0, 14, 3, .ref text_3)]) [0, 1] rfl rfl rfl dX14_part_12 (fun H_7 locs_7 hh_7 => ?_)
  clear hh_5
  refine lv_aload_n hx hb dX14_part_15 rfl (lv_at hl 1 rfl) ?_
  refine lv_iconst (v := 0) hx hb dX14_part_16 (by decide) ?_
  refine lv_iload_n hx hb dX14_part_17 rfl (lv_at hl 0 rfl) ?_
  obtain ⟨f_f0_10, hh_10⟩ := hh_7.cpin hB101 (by decide) (by decide) hg_text_3
  clear hh_7
  refine va_calli (A0 := jA base) (H0 := s.heap) (va_runS (As := [.ref text_3, .int 0, .int units_6]) (rest := []) ⟨hx, hb, hml, hown, hts⟩ (uX14_behindGaps l dC dI ca base B hB hAp hB101 G0 H_7 text_3 0 units_6 1500 f_f0_10) (va_cwS 3 hts (jgS (jWr_57 _ (List.mem_of_getElem? (i := 13) rfl)) (jWr_57 _ (List.mem_of_getElem? (i := 14) rfl)) (jWr_1 _ (List.mem_of_getElem? (i := 5) rfl)) (jWr_57 _ (List.mem_of_getElem? (i := 15) rfl))) rfl rfl rfl (by decide +kernel) ⟨by rw [← hR]; exact Nat.le_of_ble_eq_true rfl, by rw [← hR]; exact Nat.le_of_ble_eq_true rfl⟩) ⟨fun a U g mk q => by obtain ⟨q0, q1, q2, qK, q10, q11, q12, q13⟩ := q; exact ⟨q0, q1, q2, jG.calling g mk a qK, q10, q11, q12, q13⟩, fun U hU hW => ⟨rfl, hU, hh_10.2.1, hG.step hW hU hh_10.1, hg_text_3, jP.nil, (hh_10.2.2.2.2.2.2.2.1.sub (L1 := [(text_3, 101, 1500, ca 1, f_f0_10)]) [0] rfl), by first | omega | (refine ⟨?_, ?_, ?_, ?_⟩ <;> (first | omega | rfl | assumption | decide | exact Or.inl rfl | exact Or.inr rfl | (simp only; omega)))⟩⟩ rfl rfl hl.1 rfl (lv_room (Nat.le_of_ble_eq_true rfl)) dX14_part_18 ⟨Nat.zero_le _, Nat.zero_le _⟩) hh_10.1 (fun q _ h => h) (fun q h => h) (fun r_9 u_8 t_8 H_8 locs_8 ht_8 hvm_8 hr_9 hb_8 hz_8 hk_8 hS_8 => ?_)
  rw [ht_8] at hb_8
  obtain ⟨hb_81, hb_82, hb_83, hb_84, hb_85⟩ := hb_8
  have hh_8 : jSt (dC, dI) B base G0 G0 EX14_part s.heap 0 0 [(r0, 14, 5, .int 0), (r0, 14, 4, .int units_6), (r0, 14, 3, .ref text_3)] [(text_3, 101, 1500, ca 1, f_f0_10)] [] H_8 locs_8 := ((hh_10.call hb_81 hb_82 hb_83 hb_84 hS_8 rfl (L1 := [(r0, 14, 5, .int 0), (r0, 14, 4, .int units_6), (r0, 14, 3, .ref text_3)]) [0, 1, 2] rfl rfl (M1 := [(text_3, 101, 1500, ca 1, f_f0_10)]) [0] rfl rfl (I1 := []) [] rfl rfl).more hb_85)
  clear hh_10 ht_8 hvm_8 hz_8 hk_8 hS_8 hb_81 hb_82 hb_83 hb_84 hb_85
  obtain ⟨hr_9_0, hr_9_1⟩ := hr_9
  refine lv_istore_n (lv' := [(3, .int r_9), (2, .int units_6), (1, .ref text_3), (0, .ref r0)]) hx hb dX14_part_21 rfl hl (by decide) rfl (fun ls hl => ?_)
  have L22 : ∀ (N : Nat) (v3_11 : Int32) (wz_11 : Int32) (H_11 : Heap) (locs_11 : List Loc), jSt (dC, dI) B base G0 G0 EX14_part s.heap 0 0 [(r0, 14, 5, .int wz_11), (r0, 14, 4, .int units_6), (r0, 14, 3, .ref text_3)] [(text_3, 101, 1500, ca 1, f_f0_10)] [] H_11 locs_11 → (0 ≤ v3_11.toInt ∧ v3_11.toInt ≤ units_6.toInt ∧ 0 ≤ wz_11.toInt ∧ wz_11.toInt ≤ 40 ∧ (v3_11.toInt = units_6.toInt ∨ wz_11.toInt ≤ 39)) → (units_6.toInt - v3_11.toInt : Int) < N → ∀ ls : Array Slot, lv_has ls 6 [(0, .ref r0), (1, .ref text_3), (2, .int units_6), (3, .int v3_11)] → W p l e R s m ([.ref r0] : List Value).toArray below meth c H_11 locs_11 0 0 Q (F0 m 22 ls []) := by
    intro N
    induction N with
    | zero => intro v3_11 wz_11 H_11 locs_11 hh_11  hi_11 hm; exact absurd hm (by omega)
    | succ N L22 =>
      intro v3_11 wz_11 H_11 locs_11 hh_11  hi_11 hm_11 ls hl
      obtain ⟨hi_11_0, hi_11_1, hi_11_2, hi_11_3, hi_11_4⟩ := hi_11
      refine lv_iload_n hx hb dX14_part_22 rfl (lv_at hl 3 rfl) ?_
      refine lv_iload_n hx hb dX14_part_23 rfl (lv_at hl 2 rfl) ?_
      refine lv_icmp_ge (tgt := 140) hx hb dX14_part_24 (by decide) (fun c_12 => ?_) (fun c_12 => ?_)
      · skip
        have c_12' : v3_11.toInt ≥ units_6.toInt := jb_ge (rfl) (rfl) c_12
        rw [hQ]
        exact W.vret hx hb hr (fun t ht hW => ⟨⟨(), rfl, trivial, hh_11.rt (M1 := []) [] rfl ht⟩, by rw [ht]; try exact hh_11.1.1, fun q h9 hq => by rw [ht]; try exact hh_11.1.2.1 q h9 hq⟩) hh_11.1.2.2 dX14_part_140
      · skip
        have c_12' : v3_11.toInt < units_6.toInt := jb_ge_n (rfl) (rfl) c_12
        refine lv_aload_n hx hb dX14_part_27 rfl (lv_at hl 0 rfl) ?_
        refine j7_readN hx hb hown hK (C := RX12) (T := TX12) (N := 11) rfl hly_14_5 hlk_587 (hh_11.at 0 rfl) dX14_part_28 ?_
        refine lv_istore (lv' := [(4, .int wz_11), (0, .ref r0), (1, .ref text_3), (2, .int units_6), (3, .int v3_11)]) hx hb dX14_part_31 hl (by decide) rfl (fun ls hl => ?_)
        refine lv_aload_n hx hb dX14_part_33 rfl (lv_at hl 1 rfl) ?_
        refine lv_dup hx hb dX14_part_34 rfl ?_
        refine j7_readN hx hb hown hK (C := RX12) (T := TX12) (N := 11) rfl hly_14_5 hlk_587 (hh_11.at 0 rfl) dX14_part_35 ?_
        refine lv_iconst (v := 1) hx hb dX14_part_38 (by decide) ?_
        refine lv_iadd hx hb dX14_part_39 ?_
        refine lv_topi (fun z_13 ez_13 => ?_)
        have hz_13 : z_13.toInt = wz_11.toInt + 1 := by rw [ez_13]; exact jb_iadd2 (rfl) ((by decide)) (by omega)
        refine j7_putN hx hb hown hK hh_11 hB hAp hB14 (C := RX12) (T := TX12) (N := 11) rfl (by decide) hg_r0 (i := 5) (by decide) hly_14_5 rfl hlk_587 rfl (ty := .int) (v := .int z_13) (by decide +kernel) rfl rfl (⟨_, rfl, by omega, by omega⟩) rfl (L1 := [(r0, 14, 4, .int units_6), (r0, 14, 3, .ref text_3)]) [1, 2] rfl rfl rfl dX14_part_40 (fun H_14 locs_14 hh_14 => ?_)
        clear hh_11
        refine lv_aload_n hx hb dX14_part_43 rfl (lv_at hl 1 rfl) ?_
        obtain ⟨v_15, hv_15, hh_16⟩ := hh_14.pin (C := RX12) (T := TX12) (N := 11) hB14 rfl (by decide) hg_r0 (i := 6) (by decide) rfl
        clear hh_14
        obtain ⟨begin_17, rfl, hg_begin_17⟩ := hv_15
        refine j7_readN hx hb hown hK (C := RX12) (T := TX12) (N := 11) rfl hly_14_6 hlk_596 (hh_16.at 0 rfl) dX14_part_44 ?_
        refine lv_iload hx hb dX14_part_47 (lv_at hl 0 rfl) ?_
        refine lv_iload_n hx hb dX14_part_49 rfl (lv_at hl 4 rfl) ?_
        refine j7_iast hx hb hK hh_16 hB hB190 1 rfl (by decide) (by decide) rfl rfl rfl hg_begin_17 (x := wz_11.toInt) (rfl) (by omega) (by first | omega | (refine ⟨?_, ?_⟩ <;> (first | omega | rfl | assumption | decide | exact Or.inl rfl | exact Or.inr rfl | (simp only; omega)))) dX14_part_50 (fun H_18 locs_18 hh_18 => ?_)
        clear hh_16
        refine lv_aload_n hx hb dX14_part_51 rfl (lv_at hl 2 rfl) ?_
        refine lv_iload_n hx hb dX14_part_52 rfl (lv_at hl 4 rfl) ?_
        refine lv_iload_n hx hb dX14_part_53 rfl (lv_at hl 3 rfl) ?_
        refine va_calli (A0 := jA base) (H0 := s.heap) (va_runS (As := [.ref text_3, .int v3_11, .int units_6]) (rest := []) ⟨hx, hb, hml, hown, hts⟩ (uX14_sentenceEnd l dC dI ca base B hB hAp hB101 G0 H_18 text_3 v3_11 units_6 1500 f_f0_10) (va_cwS 3 hts (jgS (jWr_58 _ (List.mem_of_getElem? (i := 4) rfl)) (jWr_58 _ (List.mem_of_getElem? (i := 5) rfl)) (jWr_1 _ (List.mem_of_getElem? (i := 5) rfl)) (jWr_58 _ (List.mem_of_getElem? (i := 6) rfl))) rfl rfl rfl (by decide +kernel) ⟨by rw [← hR]; exact Nat.le_of_ble_eq_true rfl, by rw [← hR]; exact Nat.le_of_ble_eq_true rfl⟩) ⟨fun a U g mk q => by obtain ⟨q0, q1, q2, qK, q10, q11, q12, q13⟩ := q; exact ⟨q0, q1, q2, jG.calling g mk a qK, q10, q11, q12, q13⟩, fun U hU hW => ⟨rfl, hU, hh_18.2.1, hG.step hW hU hh_18.1, hg_text_3, jP.nil, (hh_18.2.2.2.2.2.2.2.1.sub (L1 := [(text_3, 101, 1500, ca 1, f_f0_10)]) [0] rfl), by first | omega | (refine ⟨?_, ?_, ?_, ?_⟩ <;> (first | omega | rfl | assumption | decide | exact Or.inl rfl | exact Or.inr rfl | (simp only; omega)))⟩⟩ rfl rfl hl.1 rfl (lv_room (Nat.le_of_ble_eq_true rfl)) dX14_part_54 ⟨Nat.zero_le _, Nat.zero_le _⟩) hh_18.1 (fun q _ h => h) (fun q h => h) (fun r_20 u_19 t_19 H_19 locs_19 ht_19 hvm_19 hr_20 hb_19 hz_19 hk_19 hS_19 => ?_)
        rw [ht_19] at hb_19
        obtain ⟨hb_191, hb_192, hb_193, hb_194, hb_195⟩ := hb_19
        have hh_19 : jSt (dC, dI) B base G0 G0 EX14_part s.heap 0 0 [(r0, 14, 6, .ref begin_17), (r0, 14, 5, .int z_13), (r0, 14, 4, .int units_6), (r0, 14, 3, .ref text_3)] [(text_3, 101, 1500, ca 1, f_f0_10)] [] H_19 locs_19 := ((hh_18.call hb_191 hb_192 hb_193 hb_194 hS_19 rfl (L1 := [(r0, 14, 6, .ref begin_17), (r0, 14, 5, .int z_13), (r0, 14, 4, .int units_6), (r0, 14, 3, .ref text_3)]) [0, 1, 2, 3] rfl rfl (M1 := [(text_3, 101, 1500, ca 1, f_f0_10)]) [0] rfl rfl (I1 := []) [] rfl rfl).more hb_195)
        clear hh_18 ht_19 hvm_19 hz_19 hk_19 hS_19 hb_191 hb_192 hb_193 hb_194 hb_195
        obtain ⟨hr_20_0, hr_20_1, hr_20_2⟩ := hr_20
        refine lv_istore (lv' := [(5, .int r_20), (4, .int wz_11), (0, .ref r0), (1, .ref text_3), (2, .int units_6), (3, .int v3_11)]) hx hb dX14_part_57 hl (by decide) rfl (fun ls hl => ?_)
        refine lv_aload_n hx hb dX14_part_59 rfl (lv_at hl 2 rfl) ?_
        obtain ⟨v_21, hv_21, hh_22⟩ := hh_19.pin (C := RX12) (T := TX12) (N := 11) hB14 rfl (by decide) hg_r0 (i := 8) (by decide) rfl
        clear hh_19
        obtain ⟨flaw_23, rfl, hg_flaw_23⟩ := hv_21
        refine j7_readN hx hb hown hK (C := RX12) (T := TX12) (N := 11) rfl hly_14_8 hlk_599 (hh_22.at 0 rfl) dX14_part_60 ?_
        refine lv_iload hx hb dX14_part_63 (lv_at hl 1 rfl) ?_
        refine lv_iload hx hb dX14_part_65 (lv_at hl 0 rfl) ?_
        have C75 : ∀ (w0_24 : Int32) (H_24 : Heap) (locs_24 : List Loc), jSt (dC, dI) B base G0 G0 EX14_part s.heap 0 0 [(r0, 14, 8, .ref flaw_23), (r0, 14, 6, .ref begin_17), (r0, 14, 5, .int z_13), (r0, 14, 4, .int units_6), (r0, 14, 3, .ref text_3)] [(text_3, 101, 1500, ca 1, f_f0_10)] [] H_24 locs_24 → (w0_24 = 0 ∨ w0_24 = 1) → (0 ≤ w0_24.toInt ∧ w0_24.toInt ≤ 1 ∧ (r_20.toInt = -1 ∨ v3_11.toInt < r_20.toInt)) → ∀ ls : Array Slot, lv_has ls 6 [(0, .ref r0), (1, .ref text_3), (2, .int units_6), (3, .int v3_11), (4, .int wz_11), (5, .int r_20)] → W p l e R s m ([.ref r0] : List Value).toArray below meth c H_24 locs_24 0 0 Q (F0 m 75 ls [.int w0_24, .int wz_11, .ref flaw_23]) := by
          intro w0_24 H_24 locs_24 hh_24 hb_w0_24 hi_24 ls hl
          obtain ⟨hi_24_0, hi_24_1, hi_24_2⟩ := hi_24
          have hb_w0_24' := jb_01 hb_w0_24
          try clear hr_20_2
          refine j7_iast hx hb hK hh_24 hB hB192 1 rfl (by decide) (by decide) rfl rfl rfl hg_flaw_23 (x := wz_11.toInt) (rfl) (by omega) (by first | omega | (refine ⟨?_, ?_⟩ <;> (first | omega | rfl | assumption | decide | exact Or.inl rfl | exact Or.inr rfl | (simp only; omega)))) dX14_part_75 (fun H_25 locs_25 hh_25 => ?_)
          clear hh_24
          refine lv_aload_n hx hb dX14_part_76 rfl (lv_at hl 0 rfl) ?_
          obtain ⟨v_26, hv_26, hh_27⟩ := hh_25.pin (C := RX12) (T := TX12) (N := 11) hB14 rfl (by decide) hg_r0 (i := 7) (by decide) rfl
          clear hh_25
          obtain ⟨end_28, rfl, hg_end_28⟩ := hv_26
          refine j7_readN hx hb hown hK (C := RX12) (T := TX12) (N := 11) rfl hly_14_7 hlk_594 (hh_27.at 0 rfl) dX14_part_77 ?_
          refine lv_iload hx hb dX14_part_80 (lv_at hl 4 rfl) ?_
          refine lv_iload hx hb dX14_part_82 (lv_at hl 5 rfl) ?_
          have C93 : ∀ (w0_29 : Int32) (H_29 : Heap) (locs_29 : List Loc), jSt (dC, dI) B base G0 G0 EX14_part s.heap 0 0 [(r0, 14, 7, .ref end_28), (r0, 14, 8, .ref flaw_23), (r0, 14, 6, .ref begin_17), (r0, 14, 5, .int z_13), (r0, 14, 4, .int units_6), (r0, 14, 3, .ref text_3)] [(text_3, 101, 1500, ca 1, f_f0_10)] [] H_29 locs_29 → (v3_11.toInt < w0_29.toInt ∧ w0_29.toInt ≤ units_6.toInt) → ∀ ls : Array Slot, lv_has ls 6 [(0, .ref r0), (1, .ref text_3), (2, .int units_6), (3, .int v3_11), (4, .int wz_11), (5, .int r_20)] → W p l e R s m ([.ref r0] : List Value).toArray below meth c H_29 locs_29 0 0 Q (F0 m 93 ls [.int w0_29, .int wz_11, .ref end_28]) := by
            intro w0_29 H_29 locs_29 hh_29  hi_29 ls hl
            obtain ⟨hi_29_0, hi_29_1⟩ := hi_29
            refine j7_iastE hx hb hK hh_29 hB hB191 1 rfl (by decide) (by decide) rfl rfl rfl hg_end_28 (x := wz_11.toInt) (rfl) (by omega) (by first | omega | (refine ⟨?_, ?_⟩ <;> (first | omega | rfl | assumption | decide | exact Or.inl rfl | exact Or.inr rfl | (simp only; omega)))) dX14_part_93 (fun H_30 locs_30 fs_31 hv_30 hh_30 => ?_)
            have hv_30 : (fs_31 (wz_11.toInt).toNat).toInt = w0_29.toInt := by rw [hv_30]; try exact rfl
            clear hh_29
            refine lv_aload_n hx hb dX14_part_94 rfl (lv_at hl 1 rfl) ?_
            refine lv_aload_n hx hb dX14_part_95 rfl (lv_at hl 0 rfl) ?_
            refine j7_readN hx hb hown hK (C := RX12) (T := TX12) (N := 11) rfl hly_14_7 hlk_594 (hh_30.at 0 rfl) dX14_part_96 ?_
            refine lv_iload hx hb dX14_part_99 (lv_at hl 4 rfl) ?_
            refine j7_ialdM hx hb hK hh_30 hB191 1 rfl (by decide) hg_end_28 (x := wz_11.toInt) (rfl) (by omega) (j := 0) rfl dX14_part_101 (fun z_32 ez_32 (hz_32 : 0 ≤ z_32.toInt ∧ z_32.toInt ≤ 1500) => ?_)
            have hqz_32 : z_32.toInt = (fs_31 (wz_11.toInt).toNat).toInt := by rw [ez_32]
            refine lv_iload_n hx hb dX14_part_102 rfl (lv_at hl 2 rfl) ?_
            refine va_calli (A0 := jA base) (H0 := s.heap) (va_runS (As := [.ref text_3, .int z_32, .int units_6]) (rest := []) ⟨hx, hb, hml, hown, hts⟩ (uX14_behindGaps l dC dI ca base B hB hAp hB101 G0 H_30 text_3 z_32 units_6 1500 f_f0_10) (va_cwS 3 hts (jgS (jWr_57 _ (List.mem_of_getElem? (i := 13) rfl)) (jWr_57 _ (List.mem_of_getElem? (i := 14) rfl)) (jWr_1 _ (List.mem_of_getElem? (i := 5) rfl)) (jWr_57 _ (List.mem_of_getElem? (i := 15) rfl))) rfl rfl rfl (by decide +kernel) ⟨by rw [← hR]; exact Nat.le_of_ble_eq_true rfl, by rw [← hR]; exact Nat.le_of_ble_eq_true rfl⟩) ⟨fun a U g mk q => by obtain ⟨q0, q1, q2, qK, q10, q11, q12, q13⟩ := q; exact ⟨q0, q1, q2, jG.calling g mk a qK, q10, q11, q12, q13⟩, fun U hU hW => ⟨rfl, hU, hh_30.2.1, hG.step hW hU hh_30.1, hg_text_3, jP.nil, (hh_30.2.2.2.2.2.2.2.1.sub (L1 := [(text_3, 101, 1500, ca 1, f_f0_10)]) [1] rfl), by first | omega | (refine ⟨?_, ?_, ?_, ?_⟩ <;> (first | omega | rfl | assumption | decide | exact Or.inl rfl | exact Or.inr rfl | (simp only; omega)))⟩⟩ rfl rfl hl.1 rfl (lv_room (Nat.le_of_ble_eq_true rfl)) dX14_part_103 ⟨Nat.zero_le _, Nat.zero_le _⟩) hh_30.1 (fun q _ h => h) (fun q h => h) (fun r_34 u_33 t_33 H_33 locs_33 ht_33 hvm_33 hr_34 hb_33 hz_33 hk_33 hS_33 => ?_)
            rw [ht_33] at hb_33
            obtain ⟨hb_331, hb_332, hb_333, hb_334, hb_335⟩ := hb_33
            have hh_33 : jSt (dC, dI) B base G0 G0 EX14_part s.heap 0 0 [(r0, 14, 7, .ref end_28), (r0, 14, 8, .ref flaw_23), (r0, 14, 6, .ref begin_17), (r0, 14, 5, .int z_13), (r0, 14, 4, .int units_6), (r0, 14, 3, .ref text_3)] [(end_28, 191, 40, ca 1, fs_31), (text_3, 101, 1500, ca 1, f_f0_10)] [] H_33 locs_33 := ((hh_30.call hb_331 hb_332 hb_333 hb_334 hS_33 rfl (L1 := [(r0, 14, 7, .ref end_28), (r0, 14, 8, .ref flaw_23), (r0, 14, 6, .ref begin_17), (r0, 14, 5, .int z_13), (r0, 14, 4, .int units_6), (r0, 14, 3, .ref text_3)]) [0, 1, 2, 3, 4, 5] rfl rfl (M1 := [(end_28, 191, 40, ca 1, fs_31), (text_3, 101, 1500, ca 1, f_f0_10)]) [0, 1] rfl rfl (I1 := []) [] rfl rfl).more hb_335)
            clear hh_30 ht_33 hvm_33 hz_33 hk_33 hS_33 hb_331 hb_332 hb_333 hb_334 hb_335
            obtain ⟨hr_34_0, hr_34_1⟩ := hr_34
            refine lv_istore_n (lv' := [(3, .int r_34), (0, .ref r0), (1, .ref text_3), (2, .int units_6), (4, .int wz_11), (5, .int r_20)]) hx hb dX14_part_106 rfl hl (by decide) rfl (fun ls hl => ?_)
            refine lv_iload hx hb dX14_part_107 (lv_at hl 4 rfl) ?_
            refine lv_bipush (v := 39) hx hb dX14_part_109 (by decide) ?_
            refine lv_icmp_ne (tgt := 137) hx hb dX14_part_111 (by decide) (fun c_35 => ?_) (fun c_35 => ?_)
            · skip
              have c_35' : wz_11.toInt ≠ 39 := jb_ne (rfl) ((by decide)) c_35
              refine lv_goto (tgt := 22) hx hb dX14_part_137 (by decide) ?_
              exact L22 r_34 z_13 _ _ (hh_33.sub (L1 := [(r0, 14, 5, .int z_13), (r0, 14, 4, .int units_6), (r0, 14, 3, .ref text_3)]) [3, 4, 5] rfl (M1 := [(text_3, 101, 1500, ca 1, f_f0_10)]) [1] rfl (I1 := []) [] rfl) (by first | omega | (refine ⟨?_, ?_, ?_, ?_, ?_⟩ <;> (first | omega | rfl | assumption | decide | exact Or.inl rfl | exact Or.inr rfl | (simp only; omega)))) (by omega) _ (lv_sub hl [1, 2, 3, 0] rfl)
            · skip
              have c_35' : wz_11.toInt = 39 := jb_ne_n (rfl) ((by decide)) c_35
              refine lv_iload_n hx hb dX14_part_114 rfl (lv_at hl 0 rfl) ?_
              refine lv_iload_n hx hb dX14_part_115 rfl (lv_at hl 3 rfl) ?_
              refine lv_icmp_ge (tgt := 137) hx hb dX14_part_116 (by decide) (fun c_36 => ?_) (fun c_36 => ?_)
              · skip
                have c_36' : r_34.toInt ≥ units_6.toInt := jb_ge (rfl) (rfl) c_36
                refine lv_goto (tgt := 22) hx hb dX14_part_137 (by decide) ?_
                exact L22 r_34 z_13 _ _ (hh_33.sub (L1 := [(r0, 14, 5, .int z_13), (r0, 14, 4, .int units_6), (r0, 14, 3, .ref text_3)]) [3, 4, 5] rfl (M1 := [(text_3, 101, 1500, ca 1, f_f0_10)]) [1] rfl (I1 := []) [] rfl) (by first | omega | (refine ⟨?_, ?_, ?_, ?_, ?_⟩ <;> (first | omega | rfl | assumption | decide | exact Or.inl rfl | exact Or.inr rfl | (simp only; omega)))) (by omega) _ (lv_sub hl [1, 2, 3, 0] rfl)
              · skip
                have c_36' : r_34.toInt < units_6.toInt := jb_ge_n (rfl) (rfl) c_36
                refine lv_aload_n hx hb dX14_part_119 rfl (lv_at hl 1 rfl) ?_
                refine j7_readN hx hb hown hK (C := RX12) (T := TX12) (N := 11) rfl hly_14_8 hlk_599 (hh_33.at 1 rfl) dX14_part_120 ?_
                refine lv_iload hx hb dX14_part_123 (lv_at hl 4 rfl) ?_
                refine lv_iconst (v := 2) hx hb dX14_part_125 (by decide) ?_
                refine j7_iast hx hb hK hh_33 hB hB192 1 rfl (by decide) (by decide) rfl rfl rfl hg_flaw_23 (x := wz_11.toInt) (rfl) (by omega) (by first | omega | (refine ⟨?_, ?_⟩ <;> (first | omega | rfl | assumption | decide | exact Or.inl rfl | exact Or.inr rfl | (simp only; omega)))) dX14_part_126 (fun H_37 locs_37 hh_37 => ?_)
                clear hh_33
                refine lv_aload_n hx hb dX14_part_127 rfl (lv_at hl 1 rfl) ?_
                refine j7_readN hx hb hown hK (C := RX12) (T := TX12) (N := 11) rfl hly_14_7 hlk_594 (hh_37.at 0 rfl) dX14_part_128 ?_
                refine lv_iload hx hb dX14_part_131 (lv_at hl 4 rfl) ?_
                refine lv_iload_n hx hb dX14_part_133 rfl (lv_at hl 3 rfl) ?_
                have hh_39 := hh_37.sub (L1 := [(r0, 14, 7, .ref end_28), (r0, 14, 8, .ref flaw_23), (r0, 14, 6, .ref begin_17), (r0, 14, 5, .int z_13), (r0, 14, 4, .int units_6), (r0, 14, 3, .ref text_3)]) [0, 1, 2, 3, 4, 5] rfl (M1 := [(text_3, 101, 1500, ca 1, f_f0_10)]) [1] rfl (I1 := []) [] rfl
                clear hh_37
                refine j7_iast hx hb hK hh_39 hB hB191 1 rfl (by decide) (by decide) rfl rfl rfl hg_end_28 (x := wz_11.toInt) (rfl) (by omega) (by first | omega | (refine ⟨?_, ?_⟩ <;> (first | omega | rfl | assumption | decide | exact Or.inl rfl | exact Or.inr rfl | (simp only; omega)))) dX14_part_134 (fun H_38 locs_38 hh_38 => ?_)
                clear hh_39
                refine lv_iload_n hx hb dX14_part_135 rfl (lv_at hl 3 rfl) ?_
                refine lv_istore_n (lv' := [(3, .int units_6), (0, .ref r0), (1, .ref text_3), (2, .int units_6), (4, .int wz_11), (5, .int r_20)]) hx hb dX14_part_136 rfl hl (by decide) rfl (fun ls hl => ?_)
                refine lv_goto (tgt := 22) hx hb dX14_part_137 (by decide) ?_
                exact L22 units_6 z_13 _ _ (hh_38.sub (L1 := [(r0, 14, 5, .int z_13), (r0, 14, 4, .int units_6), (r0, 14, 3, .ref text_3)]) [3, 4, 5] rfl (M1 := [(text_3, 101, 1500, ca 1, f_f0_10)]) [0] rfl (I1 := []) [] rfl) (by first | omega | (refine ⟨?_, ?_, ?_, ?_, ?_⟩ <;> (first | omega | rfl | assumption | decide | exact Or.inl rfl | exact Or.inr rfl | (simp only; omega)))) (by omega) _ (lv_sub hl [1, 2, 3, 0] rfl)
          refine lv_if_ge (tgt := 91) hx hb dX14_part_84 (by decide) (fun c_40 => ?_) (fun c_40 => ?_)
          · skip
            have c_40' : r_20.toInt ≥ 0 := jb_ge (rfl) ((by decide)) c_40
            refine lv_iload hx hb dX14_part_91 (lv_at hl 5 rfl) ?_
            exact C93 r_20 _ _ hh_27 (by first | omega | (refine ⟨?_, ?_⟩ <;> (first | omega | rfl | assumption | decide | exact Or.inl rfl | exact Or.inr rfl | (simp only; omega)))) _ (lv_sub hl [0, 1, 2, 3, 4, 5] rfl)
          · skip
            have c_40' : r_20.toInt < 0 := jb_ge_n (rfl) ((by decide)) c_40
            refine lv_iload_n hx hb dX14_part_87 rfl (lv_at hl 2 rfl) ?_
            refine lv_goto (tgt := 93) hx hb dX14_part_88 (by decide) ?_
            exact C93 units_6 _ _ hh_27 (by first | omega | (refine ⟨?_, ?_⟩ <;> (first | omega | rfl | assumption | decide | exact Or.inl rfl | exact Or.inr rfl | (simp only; omega)))) _ (lv_sub hl [0, 1, 2, 3, 4, 5] rfl)
        refine lv_if_ge (tgt := 74) hx hb dX14_part_67 (by decide) (fun c_41 => ?_) (fun c_41 => ?_)
        · skip
          have c_41' : r_20.toInt ≥ 0 := jb_ge (rfl) ((by decide)) c_41
          first | (have hr_20_2q := hr_20_2.resolve_left (by omega); clear hr_20_2) | (have hr_20_2q := hr_20_2.resolve_right (by omega); clear hr_20_2) | skip
          refine lv_iconst (v := 0) hx hb dX14_part_74 (by decide) ?_
          exact C75 0 _ _ hh_22 (Or.inl rfl) (by first | omega | (refine ⟨?_, ?_, ?_⟩ <;> (first | omega | rfl | assumption | decide | exact Or.inl rfl | exact Or.inr rfl | (simp only; omega)))) _ (lv_sub hl [2, 3, 4, 5, 1, 0] rfl)
        · skip
          have c_41' : r_20.toInt < 0 := jb_ge_n (rfl) ((by decide)) c_41
          first | (have hr_20_2q := hr_20_2.resolve_left (by omega); clear hr_20_2) | (have hr_20_2q := hr_20_2.resolve_right (by omega); clear hr_20_2) | skip
          refine lv_iconst (v := 1) hx hb dX14_part_70 (by decide) ?_
          refine lv_goto (tgt := 75) hx hb dX14_part_71 (by decide) ?_
          exact C75 1 _ _ hh_22 (Or.inr rfl) (by first | omega | (refine ⟨?_, ?_, ?_⟩ <;> (first | omega | rfl | assumption | decide | exact Or.inl rfl | exact Or.inr rfl | (simp only; omega)))) _ (lv_sub hl [2, 3, 4, 5, 1, 0] rfl)
  exact L22 (units_6.toInt - (r_9 : Int32).toInt : Int).toNat.succ r_9 0 _ _ hh_8 (by first | omega | (refine ⟨?_, ?_, ?_, ?_, ?_⟩ <;> (first | omega | rfl | assumption | decide | exact Or.inl rfl | exact Or.inr rfl | (simp only; omega)))) (by omega) _ (lv_sub hl [3, 2, 1, 0] rfl)
set_option maxHeartbeats 4000000 in
set_option maxRecDepth 20000 in
theorem uX14_position (l : Launch) (dC : Nat → ClassId) (dI : Nat → Nat → Nat) (ca : Nat → ClassId) (base : Nat) (B : jF) (hB : jBok B) (hAp : jAp (dC, dI)) (hB14 : ∀ n G a H, B 14 n G a H ↔ jOb (dC, dI) 14 11 (F14 n G) a H) (hB16 : ∀ n G a H, B 16 n G a H ↔ jOb (dC, dI) 16 74 (F16 n G) a H) (hB101 : ∀ n G a H, B 101 n G a H ↔ jAr (dC, dI) (ca 1) (fun j z => True) n a H) (G0 : jT) (H0 : Heap) (r0 : Nat) (r1 : Nat) (a2 : Int32) : Met l yX14_position (jw yX14_position cX14_position 6 none) ({ frames := 12, cells := 0, slots := 0, locals := 462 }) (va_Pc [.ref r0, .ref r1, .int a2] (fun U => U.heap = H0 ∧ jX B base G0 [] H0 ∧ jG dC dI ca base U ∧ G0 r1 = some (14, 0) ∧ G0 r0 = some (16, 0) ∧ jP (dC, dI) G0 H0 [] ∧ 0 ≤ a2.toInt ∧ a2.toInt ≤ 1500)) (va_Qv (S := Unit) (fun u => True) (fun u t => jRt (dC, dI) B base G0 EX14_position H0 [] t.heap) (jA base)) 0 0 (jA base) := by
  refine Met.ofW (cc := cX14_position) (maxL := 6) (ret := none) (by decide) rfl ?_
  intro p e s m args below meth c s₁ Bd hml hv
  obtain ⟨rfl, hH0, hX, hG, hg_r1, hg_r0, hP0, hp0, hp1⟩ := hv
  have hK := hG.1
  have hx := Bd.exec
  have hb := Bd.bytes
  have hr := Bd.returns
  have hts := atoms_spec (ws := (jw yX14_position cX14_position 6 none)) Bd.pre
  have htw : ∀ w ∈ jWl, w.before _ s = true := fun w h => hts w (List.mem_cons_of_mem _ h)
  have hown : s.vm.findClass RX14 = some m.cls := findClass_of_methodNamed Bd.named
  have hlocks := Bd.notSynchronized
  obtain ⟨Q, hQ⟩ : ∃ Q, Q = MQ below (va_Qv (S := Unit) (fun u => True) (fun u t => jRt (dC, dI) B base G0 EX14_position H0 [] t.heap) (jA base)) ([.ref r0, .ref r1, .int a2] : List Value).toArray s 0 0 (jA base) := ⟨_, rfl⟩
  rw [← hQ]
  have hl := lv_entry ([.ref r0, .ref r1, .int a2]) (n := 6) (Nat.le_of_ble_eq_true rfl)
  rw [lg_entry_eq]
  generalize (lg_sl ([.ref r0, .ref r1, .int a2]) ++ List.replicate (6 - (lg_sl ([.ref r0, .ref r1, .int a2])).length) Slot.unset).toArray = ls at hl ⊢
  have hl : lv_has ls 6 [(0, .ref r0), (1, .ref r1), (2, .int a2)] := hl
  generalize hR : (headSpec (jw yX14_position cX14_position 6 none) ({ frames := 12, cells := 0, slots := 0, locals := 462 })).room = R
  subst hH0
  have hh : jSt (dC, dI) B base G0 G0 EX14_position s.heap 0 0 [] [] [] s.heap [] := jSt.start hX hP0 jMc.nil jIs.nil
  clear hX hP0
  have hk0 : (0 : Int32).toInt = 0 := by decide
  have hk1 : (1 : Int32).toInt = 1 := by decide
  have hk125 : (125 : Int32).toInt = 125 := by decide
  have hly_14_3 := htw (u_lay RX12 TX12 3) (jWc_wsX120 _ (u_in_lay (by decide)))
  have hly_14_4 := htw (u_lay RX12 TX12 4) (jWc_wsX120 _ (u_in_lay (by decide)))
  have hlk_529 := (va_Nw.use (A := ([.ref r0, .ref r1, .int a2] : List Value).toArray) rfl (hG.2.1 RX14 529 "ProofServerModel$Document" "text" "[I" "ProofServerModel" (List.mem_of_getElem? (i := 1735) (by decide +kernel))))
  have hlk_526 := (va_Nw.use (A := ([.ref r0, .ref r1, .int a2] : List Value).toArray) rfl (hG.2.1 RX14 526 "ProofServerModel$Document" "units" "I" "ProofServerModel" (List.mem_of_getElem? (i := 1736) (by decide +kernel))))
  obtain ⟨str730, rstr730, hstr7300⟩ := hG.str (o := RX14) (k := 730) (tx := "{\"line\":") (List.mem_of_getElem? (i := 2534) (by decide +kernel))
  have hstr730 : jStr base str730 8 s s.heap := hstr7300
  obtain ⟨str732, rstr732, hstr7320⟩ := hG.str (o := RX14) (k := 732) (tx := ",\"character\":") (List.mem_of_getElem? (i := 2535) (by decide +kernel))
  have hstr732 : jStr base str732 13 s s.heap := hstr7320
  have hrg_a2 := jb_rng a2
  refine lv_iconst (v := 0) hx hb dX14_position_0 (by decide) ?_
  refine lv_istore_n (lv' := [(3, .int 0), (0, .ref r0), (1, .ref r1), (2, .int a2)]) hx hb dX14_position_1 rfl hl (by decide) rfl (fun ls hl => ?_)
  refine lv_iconst (v := 0) hx hb dX14_position_2 (by decide) ?_
  refine lv_istore (lv' := [(4, .int 0), (3, .int 0), (0, .ref r0), (1, .ref r1), (2, .int a2)]) hx hb dX14_position_3 hl (by decide) rfl (fun ls hl => ?_)
  refine lv_aload_n hx hb dX14_position_5 rfl (lv_at hl 3 rfl) ?_
  obtain ⟨v_1, hv_1, hh_2⟩ := hh.pin (C := RX12) (T := TX12) (N := 11) hB14 rfl (by decide) hg_r1 (i := 3) (by decide) rfl
  clear hh
  obtain ⟨text_3, rfl, hg_text_3⟩ := hv_1
  refine j7_readN hx hb hown hK (C := RX12) (T := TX12) (N := 11) rfl hly_14_3 hlk_529 (hh_2.at 0 rfl) dX14_position_6 ?_
  refine lv_aload_n hx hb dX14_position_9 rfl (lv_at hl 3 rfl) ?_
  obtain ⟨v_4, hv_4, hh_5⟩ := hh_2.pin (C := RX12) (T := TX12) (N := 11) hB14 rfl (by decide) hg_r1 (i := 4) (by decide) rfl
  clear hh_2
  obtain ⟨units_6, rfl, hlounits_6, hhiunits_6⟩ := hv_4
  refine j7_readN hx hb hown hK (C := RX12) (T := TX12) (N := 11) rfl hly_14_4 hlk_526 (hh_5.at 0 rfl) dX14_position_10 ?_
  refine lv_iconst (v := 1) hx hb dX14_position_13 (by decide) ?_
  refine va_calli (A0 := jA base) (H0 := s.heap) (va_runS (As := [.ref text_3, .int units_6, .int 1]) (rest := []) ⟨hx, hb, hml, hown, hts⟩ (uX14_lineBegin l dC dI ca base B hB hAp hB101 G0 s.heap text_3 units_6 1 1500) (va_cwS 3 hts (jgS (jWr_58 _ (List.mem_of_getElem? (i := 20) rfl)) (jWr_58 _ (List.mem_of_getElem? (i := 21) rfl)) (jWr_1 _ (List.mem_of_getElem? (i := 5) rfl)) (jWr_58 _ (List.mem_of_getElem? (i := 22) rfl))) rfl rfl rfl (by decide +kernel) ⟨by rw [← hR]; exact Nat.le_of_ble_eq_true rfl, by rw [← hR]; exact Nat.le_of_ble_eq_true rfl⟩) ⟨fun a U g mk q => by obtain ⟨q0, q1, q2, qK, q10, q11, q12⟩ := q; exact ⟨q0, q1, q2, jG.calling g mk a qK, q10, q11, q12⟩, fun U hU hW => ⟨rfl, hU, hh_5.2.1, hG.step hW hU hh_5.1, hg_text_3, jP.nil, by first | omega | (refine ⟨?_, ?_, ?_⟩ <;> (first | omega | rfl | assumption | decide | exact Or.inl rfl | exact Or.inr rfl | (simp only; omega)))⟩⟩ rfl rfl hl.1 rfl (lv_room (Nat.le_of_ble_eq_true rfl)) dX14_position_14 ⟨Nat.zero_le _, Nat.zero_le _⟩) hh_5.1 (fun q _ h => h) (fun q h => h) (fun r_8 u_7 t_7 H_7 locs_7 ht_7 hvm_7 hr_8 hb_7 hz_7 hk_7 hS_7 => ?_)
  rw [ht_7] at hb_7
  obtain ⟨hb_71, hb_72, hb_73, hb_74, hb_75⟩ := hb_7
  have hh_7 : jSt (dC, dI) B base G0 G0 EX14_position s.heap 0 0 [(r1, 14, 4, .int units_6), (r1, 14, 3, .ref text_3)] [] [] H_7 locs_7 := ((hh_5.call hb_71 hb_72 hb_73 hb_74 hS_7 rfl (L1 := [(r1, 14, 4, .int units_6), (r1, 14, 3, .ref text_3)]) [0, 1] rfl rfl (M1 := []) [] rfl rfl (I1 := []) [] rfl rfl).more hb_75)
  clear hh_5 ht_7 hvm_7 hz_7 hk_7 hS_7 hb_71 hb_72 hb_73 hb_74 hb_75
  obtain ⟨hr_8_0, hr_8_1, hr_8_2⟩ := hr_8
  refine lv_istore (lv' := [(5, .int r_8), (4, .int 0), (3, .int 0), (0, .ref r0), (1, .ref r1), (2, .int a2)]) hx hb dX14_position_17 hl (by decide) rfl (fun ls hl => ?_)
  have L19 : ∀ (N : Nat) (v3_9 : Int32) (v4_9 : Int32) (v5_9 : Int32) (H_9 : Heap) (locs_9 : List Loc), jSt (dC, dI) B base G0 G0 EX14_position s.heap 0 0 [(r1, 14, 4, .int units_6), (r1, 14, 3, .ref text_3)] [] [] H_9 locs_9 → (0 ≤ v3_9.toInt ∧ v3_9.toInt ≤ 1500 ∧ 0 ≤ v4_9.toInt ∧ v4_9.toInt ≤ 1500 ∧ -1 ≤ v5_9.toInt ∧ v5_9.toInt ≤ 1500 ∧ (v5_9.toInt = -1 ∨ v3_9.toInt + 1 ≤ v5_9.toInt)) → (1501 - v3_9.toInt : Int) < N → ∀ ls : Array Slot, lv_has ls 6 [(0, .ref r0), (1, .ref r1), (2, .int a2), (3, .int v3_9), (4, .int v4_9), (5, .int v5_9)] → W p l e R s m ([.ref r0, .ref r1, .int a2] : List Value).toArray below meth c H_9 locs_9 0 0 Q (F0 m 19 ls []) := by
    intro N
    induction N with
    | zero => intro v3_9 v4_9 v5_9 H_9 locs_9 hh_9  hi_9 hm; exact absurd hm (by omega)
    | succ N L19 =>
      intro v3_9 v4_9 v5_9 H_9 locs_9 hh_9  hi_9 hm_9 ls hl
      obtain ⟨hi_9_0, hi_9_1, hi_9_2, hi_9_3, hi_9_4, hi_9_5, hi_9_6⟩ := hi_9
      try clear hr_8_2
      refine lv_iload hx hb dX14_position_19 (lv_at hl 5 rfl) ?_
      have C56 : ∀ (H_10 : Heap) (locs_10 : List Loc), jSt (dC, dI) B base G0 G0 EX14_position s.heap 0 0 [(r1, 14, 4, .int units_6), (r1, 14, 3, .ref text_3)] [] [] H_10 locs_10 → (0 ≤ v4_9.toInt ∧ v4_9.toInt ≤ 1500) → ∀ ls : Array Slot, lv_has ls 6 [(0, .ref r0), (1, .ref r1), (2, .int a2), (3, .int v3_9), (4, .int v4_9), (5, .int v5_9)] → W p l e R s m ([.ref r0, .ref r1, .int a2] : List Value).toArray below meth c H_10 locs_10 0 0 Q (F0 m 56 ls []) := by
        intro  H_10 locs_10 hh_10  hi_10 ls hl
        obtain ⟨hi_10_0, hi_10_1⟩ := hi_10
        refine lv_aload_n hx hb dX14_position_56 rfl (lv_at hl 0 rfl) ?_
        refine j_ldcSw hx hb hown rstr730 dX14_position_57 ?_
        obtain ⟨v_13, hv_13, hh_14⟩ := hh_10.pin (C := RX14) (T := TX14) (N := 74) hB16 rfl (by decide) hg_r0 (i := 6) (by decide) rfl
        obtain ⟨framed_15, rfl, hloframed_15, hhiframed_15⟩ := hv_13
        refine va_callv (A0 := jA base) (H0 := s.heap) (va_runV (As := [.ref str730]) (rest := []) ⟨hx, hb, hml, hown, hts⟩ (uX14_word l dC dI ca base B hB hAp hB16 hB101 G0 H_10 r0 str730 8 framed_15) (cwV 1 hts (jgV (jWr_53 _ (List.mem_of_getElem? (i := 22) rfl)) (jWr_53 _ (List.mem_of_getElem? (i := 23) rfl)) (jWr_54 _ (List.mem_of_getElem? (i := 0) rfl)) (jWr_1 _ (List.mem_of_getElem? (i := 5) rfl)) (jWr_54 _ (List.mem_of_getElem? (i := 1) rfl))) rfl rfl rfl (by decide +kernel) ⟨by rw [← hR]; exact Nat.le_of_ble_eq_true rfl, by rw [← hR]; exact Nat.le_of_ble_eq_true rfl⟩) ⟨fun a U g mk q => by obtain ⟨q0, q1, q2, qK, q10, q11, q12, q13⟩ := q; exact ⟨q0, q1, q2, jG.calling g mk a qK, (q10.moved (Vm.Alike.refl U.vm)), q11, q12, q13⟩, hh_14.recv (C := RX14) (T := TX14) (N := 74) hB16 rfl (by decide) hg_r0 hK, fun U hU hW => ⟨rfl, hU, hh_14.2.1, hG.step hW hU hh_14.1, (hstr730.moved hW.alike).kept hh_14.1.2.1, hg_r0, (hh_14.2.2.1.sub (L1 := [(r0, 16, 6, .int framed_15)]) [0] rfl), by first | omega | (refine ⟨?_, ?_, ?_⟩ <;> (first | omega | rfl | assumption | decide | exact Or.inl rfl | exact Or.inr rfl | (simp only; omega)))⟩⟩ rfl rfl hl.1 rfl (lv_room (Nat.le_of_ble_eq_true rfl)) dX14_position_60 ⟨Nat.zero_le _, Nat.zero_le _⟩) hh_14.1 (fun q _ h => h) (fun q h => h) (fun u_11 t_11 H_11 locs_11 ht_11 hvm_11 hr_12 hb_11 hz_11 hk_11 hS_11 => ?_)
        obtain ⟨qf_11, rfl⟩ : ∃ z, z = u_11 := ⟨_, rfl⟩
        rw [ht_11] at hb_11
        obtain ⟨hb_111, hb_112, hb_113, hb_114, hb_115⟩ := hb_11
        have hh_11 : jSt (dC, dI) B base G0 G0 EX14_position s.heap 0 0 [(r0, 16, 6, .int qf_11), (r1, 14, 4, .int units_6), (r1, 14, 3, .ref text_3)] [] [] H_11 locs_11 := ((hh_14.call hb_111 hb_112 hb_113 hb_114 hS_11 rfl (L1 := [(r1, 14, 4, .int units_6), (r1, 14, 3, .ref text_3)]) [1, 2] rfl rfl (M1 := []) [] rfl rfl (I1 := []) [] rfl rfl).more hb_115)
        clear hh_14 ht_11 hvm_11 hz_11 hk_11 hS_11 hb_111 hb_112 hb_113 hb_114 hb_115
        obtain ⟨hr_12_0, hr_12_1⟩ := hr_12
        refine lv_aload_n hx hb dX14_position_63 rfl (lv_at hl 0 rfl) ?_
        refine lv_iload_n hx hb dX14_position_64 rfl (lv_at hl 3 rfl) ?_
        refine va_callv (A0 := jA base) (H0 := s.heap) (va_runV (As := [.int v3_9]) (rest := []) ⟨hx, hb, hml, hown, hts⟩ (uX14_number l dC dI ca base B hB hAp hB16 hB101 G0 H_11 r0 v3_9 qf_11) (cwV 1 hts (jgV (jWr_54 _ (List.mem_of_getElem? (i := 18) rfl)) (jWr_54 _ (List.mem_of_getElem? (i := 19) rfl)) (jWr_54 _ (List.mem_of_getElem? (i := 20) rfl)) (jWr_1 _ (List.mem_of_getElem? (i := 5) rfl)) (jWr_54 _ (List.mem_of_getElem? (i := 21) rfl))) rfl rfl rfl (by decide +kernel) ⟨by rw [← hR]; exact Nat.le_of_ble_eq_true rfl, by rw [← hR]; exact Nat.le_of_ble_eq_true rfl⟩) ⟨fun a U g mk q => by obtain ⟨q0, q1, q2, qK, q10, q11, q12⟩ := q; exact ⟨q0, q1, q2, jG.calling g mk a qK, q10, q11, q12⟩, hh_11.recv (C := RX14) (T := TX14) (N := 74) hB16 rfl (by decide) hg_r0 hK, fun U hU hW => ⟨rfl, hU, hh_11.2.1, hG.step hW hU hh_11.1, hg_r0, (hh_11.2.2.1.sub (L1 := [(r0, 16, 6, .int qf_11)]) [0] rfl), by first | omega | (refine ⟨?_, ?_⟩ <;> (first | omega | rfl | assumption | decide | exact Or.inl rfl | exact Or.inr rfl | (simp only; omega)))⟩⟩ rfl rfl hl.1 rfl (lv_room (Nat.le_of_ble_eq_true rfl)) dX14_position_65 ⟨Nat.zero_le _, Nat.zero_le _⟩) hh_11.1 (fun q _ h => h) (fun q h => h) (fun u_16 t_16 H_16 locs_16 ht_16 hvm_16 hr_17 hb_16 hz_16 hk_16 hS_16 => ?_)
        obtain ⟨qf_16, rfl⟩ : ∃ z, z = u_16 := ⟨_, rfl⟩
        rw [ht_16] at hb_16
        obtain ⟨hb_161, hb_162, hb_163, hb_164, hb_165⟩ := hb_16
        have hh_16 : jSt (dC, dI) B base G0 G0 EX14_position s.heap 0 0 [(r0, 16, 6, .int qf_16), (r1, 14, 4, .int units_6), (r1, 14, 3, .ref text_3)] [] [] H_16 locs_16 := ((hh_11.call hb_161 hb_162 hb_163 hb_164 hS_16 rfl (L1 := [(r1, 14, 4, .int units_6), (r1, 14, 3, .ref text_3)]) [1, 2] rfl rfl (M1 := []) [] rfl rfl (I1 := []) [] rfl rfl).more hb_165)
        clear hh_11 ht_16 hvm_16 hz_16 hk_16 hS_16 hb_161 hb_162 hb_163 hb_164 hb_165
        obtain ⟨hr_17_0, hr_17_1⟩ := hr_17
        refine lv_aload_n hx hb dX14_position_68 rfl (lv_at hl 0 rfl) ?_
        refine j_ldcSw hx hb hown rstr732 dX14_position_69 ?_
        refine va_callv (A0 := jA base) (H0 := s.heap) (va_runV (As := [.ref str732]) (rest := []) ⟨hx, hb, hml, hown, hts⟩ (uX14_word l dC dI ca base B hB hAp hB16 hB101 G0 H_16 r0 str732 13 qf_16) (cwV 1 hts (jgV (jWr_53 _ (List.mem_of_getElem? (i := 22) rfl)) (jWr_53 _ (List.mem_of_getElem? (i := 23) rfl)) (jWr_54 _ (List.mem_of_getElem? (i := 0) rfl)) (jWr_1 _ (List.mem_of_getElem? (i := 5) rfl)) (jWr_54 _ (List.mem_of_getElem? (i := 1) rfl))) rfl rfl rfl (by decide +kernel) ⟨by rw [← hR]; exact Nat.le_of_ble_eq_true rfl, by rw [← hR]; exact Nat.le_of_ble_eq_true rfl⟩) ⟨fun a U g mk q => by obtain ⟨q0, q1, q2, qK, q10, q11, q12, q13⟩ := q; exact ⟨q0, q1, q2, jG.calling g mk a qK, (q10.moved (Vm.Alike.refl U.vm)), q11, q12, q13⟩, hh_16.recv (C := RX14) (T := TX14) (N := 74) hB16 rfl (by decide) hg_r0 hK, fun U hU hW => ⟨rfl, hU, hh_16.2.1, hG.step hW hU hh_16.1, (hstr732.moved hW.alike).kept hh_16.1.2.1, hg_r0, (hh_16.2.2.1.sub (L1 := [(r0, 16, 6, .int qf_16)]) [0] rfl), by first | omega | (refine ⟨?_, ?_, ?_⟩ <;> (first | omega | rfl | assumption | decide | exact Or.inl rfl | exact Or.inr rfl | (simp only; omega)))⟩⟩ rfl rfl hl.1 rfl (lv_room (Nat.le_of_ble_eq_true rfl)) dX14_position_72 ⟨Nat.zero_le _, Nat.zero_le _⟩) hh_16.1 (fun q _ h => h) (fun q h => h) (fun u_18 t_18 H_18 locs_18 ht_18 hvm_18 hr_19 hb_18 hz_18 hk_18 hS_18 => ?_)
        obtain ⟨qf_18, rfl⟩ : ∃ z, z = u_18 := ⟨_, rfl⟩
        rw [ht_18] at hb_18
        obtain ⟨hb_181, hb_182, hb_183, hb_184, hb_185⟩ := hb_18
        have hh_18 : jSt (dC, dI) B base G0 G0 EX14_position s.heap 0 0 [(r0, 16, 6, .int qf_18), (r1, 14, 4, .int units_6), (r1, 14, 3, .ref text_3)] [] [] H_18 locs_18 := ((hh_16.call hb_181 hb_182 hb_183 hb_184 hS_18 rfl (L1 := [(r1, 14, 4, .int units_6), (r1, 14, 3, .ref text_3)]) [1, 2] rfl rfl (M1 := []) [] rfl rfl (I1 := []) [] rfl rfl).more hb_185)
        clear hh_16 ht_18 hvm_18 hz_18 hk_18 hS_18 hb_181 hb_182 hb_183 hb_184 hb_185
        obtain ⟨hr_19_0, hr_19_1⟩ := hr_19
        refine lv_aload_n hx hb dX14_position_75 rfl (lv_at hl 0 rfl) ?_
        refine lv_iload_n hx hb dX14_position_76 rfl (lv_at hl 2 rfl) ?_
        refine lv_iload hx hb dX14_position_77 (lv_at hl 4 rfl) ?_
        refine lv_isub hx hb dX14_position_79 ?_
        refine lv_topi (fun z_20 ez_20 => ?_)
        have hz_20 : z_20.toInt = a2.toInt - v4_9.toInt := by rw [ez_20]; exact jb_isub2 (rfl) (rfl) (by omega)
        refine va_callv (A0 := jA base) (H0 := s.heap) (va_runV (As := [.int z_20]) (rest := []) ⟨hx, hb, hml, hown, hts⟩ (uX14_number l dC dI ca base B hB hAp hB16 hB101 G0 H_18 r0 z_20 qf_18) (cwV 1 hts (jgV (jWr_54 _ (List.mem_of_getElem? (i := 18) rfl)) (jWr_54 _ (List.mem_of_getElem? (i := 19) rfl)) (jWr_54 _ (List.mem_of_getElem? (i := 20) rfl)) (jWr_1 _ (List.mem_of_getElem? (i := 5) rfl)) (jWr_54 _ (List.mem_of_getElem? (i := 21) rfl))) rfl rfl rfl (by decide +kernel) ⟨by rw [← hR]; exact Nat.le_of_ble_eq_true rfl, by rw [← hR]; exact Nat.le_of_ble_eq_true rfl⟩) ⟨fun a U g mk q => by obtain ⟨q0, q1, q2, qK, q10, q11, q12⟩ := q; exact ⟨q0, q1, q2, jG.calling g mk a qK, q10, q11, q12⟩, hh_18.recv (C := RX14) (T := TX14) (N := 74) hB16 rfl (by decide) hg_r0 hK, fun U hU hW => ⟨rfl, hU, hh_18.2.1, hG.step hW hU hh_18.1, hg_r0, (hh_18.2.2.1.sub (L1 := [(r0, 16, 6, .int qf_18)]) [0] rfl), by first | omega | (refine ⟨?_, ?_⟩ <;> (first | omega | rfl | assumption | decide | exact Or.inl rfl | exact Or.inr rfl | (simp only; omega)))⟩⟩ rfl rfl hl.1 rfl (lv_room (Nat.le_of_ble_eq_true rfl)) dX14_position_80 ⟨Nat.zero_le _, Nat.zero_le _⟩) hh_18.1 (fun q _ h => h) (fun q h => h) (fun u_21 t_21 H_21 locs_21 ht_21 hvm_21 hr_22 hb_21 hz_21 hk_21 hS_21 => ?_)
        obtain ⟨qf_21, rfl⟩ : ∃ z, z = u_21 := ⟨_, rfl⟩
        rw [ht_21] at hb_21
        obtain ⟨hb_211, hb_212, hb_213, hb_214, hb_215⟩ := hb_21
        have hh_21 : jSt (dC, dI) B base G0 G0 EX14_position s.heap 0 0 [(r0, 16, 6, .int qf_21), (r1, 14, 4, .int units_6), (r1, 14, 3, .ref text_3)] [] [] H_21 locs_21 := ((hh_18.call hb_211 hb_212 hb_213 hb_214 hS_21 rfl (L1 := [(r1, 14, 4, .int units_6), (r1, 14, 3, .ref text_3)]) [1, 2] rfl rfl (M1 := []) [] rfl rfl (I1 := []) [] rfl rfl).more hb_215)
        clear hh_18 ht_21 hvm_21 hz_21 hk_21 hS_21 hb_211 hb_212 hb_213 hb_214 hb_215
        obtain ⟨hr_22_0, hr_22_1⟩ := hr_22
        refine lv_aload_n hx hb dX14_position_83 rfl (lv_at hl 0 rfl) ?_
        refine lv_bipush (v := 125) hx hb dX14_position_84 (by decide) ?_
        refine va_callv (A0 := jA base) (H0 := s.heap) (va_runV (As := [.int 125]) (rest := []) ⟨hx, hb, hml, hown, hts⟩ (uX14_put l dC dI ca base B hB hAp hB16 hB101 G0 H_21 r0 125 qf_21) (cwV 1 hts (jgV (jWr_54 _ (List.mem_of_getElem? (i := 2) rfl)) (jWr_54 _ (List.mem_of_getElem? (i := 3) rfl)) (jWr_54 _ (List.mem_of_getElem? (i := 4) rfl)) (jWr_1 _ (List.mem_of_getElem? (i := 5) rfl)) (jWr_54 _ (List.mem_of_getElem? (i := 5) rfl))) rfl rfl rfl (by decide +kernel) ⟨by rw [← hR]; exact Nat.le_of_ble_eq_true rfl, by rw [← hR]; exact Nat.le_of_ble_eq_true rfl⟩) ⟨fun a U g mk q => by obtain ⟨q0, q1, q2, qK, q10, q11, q12⟩ := q; exact ⟨q0, q1, q2, jG.calling g mk a qK, q10, q11, q12⟩, hh_21.recv (C := RX14) (T := TX14) (N := 74) hB16 rfl (by decide) hg_r0 hK, fun U hU hW => ⟨rfl, hU, hh_21.2.1, hG.step hW hU hh_21.1, hg_r0, (hh_21.2.2.1.sub (L1 := [(r0, 16, 6, .int qf_21)]) [0] rfl), by first | omega | (refine ⟨?_, ?_⟩ <;> (first | omega | rfl | assumption | decide | exact Or.inl rfl | exact Or.inr rfl | (simp only; omega)))⟩⟩ rfl rfl hl.1 rfl (lv_room (Nat.le_of_ble_eq_true rfl)) dX14_position_86 ⟨Nat.zero_le _, Nat.zero_le _⟩) hh_21.1 (fun q _ h => h) (fun q h => h) (fun u_23 t_23 H_23 locs_23 ht_23 hvm_23 hr_24 hb_23 hz_23 hk_23 hS_23 => ?_)
        obtain ⟨qf_23, rfl⟩ : ∃ z, z = u_23 := ⟨_, rfl⟩
        rw [ht_23] at hb_23
        obtain ⟨hb_231, hb_232, hb_233, hb_234, hb_235⟩ := hb_23
        have hh_23 : jSt (dC, dI) B base G0 G0 EX14_position s.heap 0 0 [(r0, 16, 6, .int qf_23), (r1, 14, 4, .int units_6), (r1, 14, 3, .ref text_3)] [] [] H_23 locs_23 := ((hh_21.call hb_231 hb_232 hb_233 hb_234 hS_23 rfl (L1 := [(r1, 14, 4, .int units_6), (r1, 14, 3, .ref text_3)]) [1, 2] rfl rfl (M1 := []) [] rfl rfl (I1 := []) [] rfl rfl).more hb_235)
        clear hh_21 ht_23 hvm_23 hz_23 hk_23 hS_23 hb_231 hb_232 hb_233 hb_234 hb_235
        obtain ⟨hr_24_0, hr_24_1⟩ := hr_24
        rw [hQ]
        exact W.vret hx hb hr (fun t ht hW => ⟨⟨(), rfl, trivial, hh_23.rt (M1 := []) [] rfl ht⟩, by rw [ht]; try exact hh_23.1.1, fun q h9 hq => by rw [ht]; try exact hh_23.1.2.1 q h9 hq⟩) hh_23.1.2.2 dX14_position_89
      refine lv_if_lt (tgt := 56) hx hb dX14_position_21 (by decide) (fun c_25 => ?_) (fun c_25 => ?_)
      · skip
        have c_25' : v5_9.toInt < 0 := jb_lt (rfl) ((by decide)) c_25
        exact C56  _ _ hh_9 (by first | omega | (refine ⟨?_, ?_⟩ <;> (first | omega | rfl | assumption | decide | exact Or.inl rfl | exact Or.inr rfl | (simp only; omega)))) _ (lv_sub hl [0, 1, 2, 3, 4, 5] rfl)
      · skip
        have c_25' : v5_9.toInt ≥ 0 := jb_lt_n (rfl) ((by decide)) c_25
        refine lv_iload hx hb dX14_position_24 (lv_at hl 5 rfl) ?_
        refine lv_iload_n hx hb dX14_position_26 rfl (lv_at hl 2 rfl) ?_
        refine lv_icmp_gt (tgt := 56) hx hb dX14_position_27 (by decide) (fun c_26 => ?_) (fun c_26 => ?_)
        · skip
          have c_26' : v5_9.toInt > a2.toInt := jb_gt (rfl) (rfl) c_26
          exact C56  _ _ hh_9 (by first | omega | (refine ⟨?_, ?_⟩ <;> (first | omega | rfl | assumption | decide | exact Or.inl rfl | exact Or.inr rfl | (simp only; omega)))) _ (lv_sub hl [0, 1, 2, 3, 4, 5] rfl)
        · skip
          have c_26' : v5_9.toInt ≤ a2.toInt := jb_gt_n (rfl) (rfl) c_26
          obtain ⟨z_27, ez_27⟩ : ∃ y : Int32, y = v3_9 + 1 := ⟨_, rfl⟩
          refine lv_iinc (v := z_27) (lv' := [(3, .int z_27), (0, .ref r0), (1, .ref r1), (2, .int a2), (4, .int v4_9), (5, .int v5_9)]) hx hb dX14_position_30 hl (k := 3) rfl (by rw [ez_27]; rfl) (by decide) rfl (fun ls hl => ?_)
          have hz_27 : z_27.toInt = v3_9.toInt + 1 := by rw [ez_27]; exact jb_iadd2 (rfl) (by decide) (by omega)
          refine lv_iload hx hb dX14_position_33 (lv_at hl 5 rfl) ?_
          refine lv_istore (lv' := [(4, .int v5_9), (3, .int z_27), (0, .ref r0), (1, .ref r1), (2, .int a2), (5, .int v5_9)]) hx hb dX14_position_35 hl (by decide) rfl (fun ls hl => ?_)
          refine lv_aload_n hx hb dX14_position_37 rfl (lv_at hl 3 rfl) ?_
          refine j7_readN hx hb hown hK (C := RX12) (T := TX12) (N := 11) rfl hly_14_3 hlk_529 (hh_9.at 1 rfl) dX14_position_38 ?_
          refine lv_aload_n hx hb dX14_position_41 rfl (lv_at hl 3 rfl) ?_
          refine j7_readN hx hb hown hK (C := RX12) (T := TX12) (N := 11) rfl hly_14_4 hlk_526 (hh_9.at 0 rfl) dX14_position_42 ?_
          refine lv_iload_n hx hb dX14_position_45 rfl (lv_at hl 1 rfl) ?_
          refine lv_iconst (v := 1) hx hb dX14_position_46 (by decide) ?_
          refine lv_iadd hx hb dX14_position_47 ?_
          refine lv_topi (fun z_28 ez_28 => ?_)
          have hz_28 : z_28.toInt = z_27.toInt + 1 := by rw [ez_28]; exact jb_iadd2 (rfl) ((by decide)) (by omega)
          refine va_calli (A0 := jA base) (H0 := s.heap) (va_runS (As := [.ref text_3, .int units_6, .int z_28]) (rest := []) ⟨hx, hb, hml, hown, hts⟩ (uX14_lineBegin l dC dI ca base B hB hAp hB101 G0 H_9 text_3 units_6 z_28 1500) (va_cwS 3 hts (jgS (jWr_58 _ (List.mem_of_getElem? (i := 20) rfl)) (jWr_58 _ (List.mem_of_getElem? (i := 21) rfl)) (jWr_1 _ (List.mem_of_getElem? (i := 5) rfl)) (jWr_58 _ (List.mem_of_getElem? (i := 22) rfl))) rfl rfl rfl (by decide +kernel) ⟨by rw [← hR]; exact Nat.le_of_ble_eq_true rfl, by rw [← hR]; exact Nat.le_of_ble_eq_true rfl⟩) ⟨fun a U g mk q => by obtain ⟨q0, q1, q2, qK, q10, q11, q12⟩ := q; exact ⟨q0, q1, q2, jG.calling g mk a qK, q10, q11, q12⟩, fun U hU hW => ⟨rfl, hU, hh_9.2.1, hG.step hW hU hh_9.1, hg_text_3, jP.nil, by first | omega | (refine ⟨?_, ?_, ?_⟩ <;> (first | omega | rfl | assumption | decide | exact Or.inl rfl | exact Or.inr rfl | (simp only; omega)))⟩⟩ rfl rfl hl.1 rfl (lv_room (Nat.le_of_ble_eq_true rfl)) dX14_position_48 ⟨Nat.zero_le _, Nat.zero_le _⟩) hh_9.1 (fun q _ h => h) (fun q h => h) (fun r_30 u_29 t_29 H_29 locs_29 ht_29 hvm_29 hr_30 hb_29 hz_29 hk_29 hS_29 => ?_)
          rw [ht_29] at hb_29
          obtain ⟨hb_291, hb_292, hb_293, hb_294, hb_295⟩ := hb_29
          have hh_29 : jSt (dC, dI) B base G0 G0 EX14_position s.heap 0 0 [(r1, 14, 4, .int units_6), (r1, 14, 3, .ref text_3)] [] [] H_29 locs_29 := ((hh_9.call hb_291 hb_292 hb_293 hb_294 hS_29 rfl (L1 := [(r1, 14, 4, .int units_6), (r1, 14, 3, .ref text_3)]) [0, 1] rfl rfl (M1 := []) [] rfl rfl (I1 := []) [] rfl rfl).more hb_295)
          clear hh_9 ht_29 hvm_29 hz_29 hk_29 hS_29 hb_291 hb_292 hb_293 hb_294 hb_295
          obtain ⟨hr_30_0, hr_30_1, hr_30_2⟩ := hr_30
          refine lv_istore (lv' := [(5, .int r_30), (4, .int v5_9), (3, .int z_27), (0, .ref r0), (1, .ref r1), (2, .int a2)]) hx hb dX14_position_51 hl (by decide) rfl (fun ls hl => ?_)
          refine lv_goto (tgt := 19) hx hb dX14_position_53 (by decide) ?_
          exact L19 z_27 v5_9 r_30 _ _ hh_29 (by first | omega | (refine ⟨?_, ?_, ?_, ?_, ?_, ?_, ?_⟩ <;> (first | omega | rfl | assumption | decide | exact Or.inl rfl | exact Or.inr rfl | (simp only; omega)))) (by omega) _ (lv_sub hl [3, 4, 5, 2, 1, 0] rfl)
  exact L19 (1501 - (0 : Int32).toInt : Int).toNat.succ 0 0 r_8 _ _ hh_7 (by first | omega | (refine ⟨?_, ?_, ?_, ?_, ?_, ?_, ?_⟩ <;> (first | omega | rfl | assumption | decide | exact Or.inl rfl | exact Or.inr rfl | (simp only; omega)))) (by omega) _ (lv_sub hl [3, 4, 5, 2, 1, 0] rfl)
set_option maxHeartbeats 4000000 in
set_option maxRecDepth 20000 in
theorem uX14_inCache (l : Launch) (dC : Nat → ClassId) (dI : Nat → Nat → Nat) (ca : Nat → ClassId) (base : Nat) (B : jF) (hB : jBok B) (hAp : jAp (dC, dI)) (hB16 : ∀ n G a H, B 16 n G a H ↔ jOb (dC, dI) 16 74 (F16 n G) a H) (hB101 : ∀ n G a H, B 101 n G a H ↔ jAr (dC, dI) (ca 1) (fun j z => True) n a H) (hB205 : ∀ n G a H, B 205 n G a H ↔ jAr (dC, dI) (ca 1) (fun j z => 0 ≤ z.toInt ∧ z.toInt ≤ 1600) n a H) (G0 : jT) (H0 : Heap) (r0 : Nat) (pq : Int32) : Met l yX14_inCache (jw yX14_inCache cX14_inCache 4 (some .int)) ({ frames := 0, cells := 0, slots := 0, locals := 0 }) (va_Pc [.ref r0] (fun U => U.heap = H0 ∧ jX B base G0 [] H0 ∧ jG dC dI ca base U ∧ G0 r0 = some (16, 0) ∧ jP (dC, dI) G0 H0 [(r0, 16, 66, .int pq)] ∧ 0 ≤ pq.toInt ∧ pq.toInt ≤ 24)) (va_Qi (S := Unit) (fun r u => (-1 ≤ r.toInt ∧ r.toInt < pq.toInt + 1 ∧ (r.toInt = -1 ∨ r.toInt < pq.toInt))) (fun u t => jRt (dC, dI) B base G0 EX14_inCache H0 [] t.heap) (jA base)) 0 0 (jA base) := by
  refine Met.ofW (cc := cX14_inCache) (maxL := 4) (ret := (some .int)) (by decide) rfl ?_
  intro p e s m args below meth c s₁ Bd hml hv
  obtain ⟨rfl, hH0, hX, hG, hg_r0, hP0, hp0, hp1⟩ := hv
  have hK := hG.1
  have hx := Bd.exec
  have hb := Bd.bytes
  have hr := Bd.returns
  have hts := atoms_spec (ws := (jw yX14_inCache cX14_inCache 4 (some .int))) Bd.pre
  have htw : ∀ w ∈ jWl, w.before _ s = true := fun w h => hts w (List.mem_cons_of_mem _ h)
  have hown : s.vm.findClass RX14 = some m.cls := findClass_of_methodNamed Bd.named
  have hlocks := Bd.notSynchronized
  obtain ⟨Q, hQ⟩ : ∃ Q, Q = MQ below (va_Qi (S := Unit) (fun r u => (-1 ≤ r.toInt ∧ r.toInt < pq.toInt + 1 ∧ (r.toInt = -1 ∨ r.toInt < pq.toInt))) (fun u t => jRt (dC, dI) B base G0 EX14_inCache H0 [] t.heap) (jA base)) ([.ref r0] : List Value).toArray s 0 0 (jA base) := ⟨_, rfl⟩
  rw [← hQ]
  have hl := lv_entry ([.ref r0]) (n := 4) (Nat.le_of_ble_eq_true rfl)
  rw [lg_entry_eq]
  generalize (lg_sl ([.ref r0]) ++ List.replicate (4 - (lg_sl ([.ref r0])).length) Slot.unset).toArray = ls at hl ⊢
  have hl : lv_has ls 4 [(0, .ref r0)] := hl
  generalize hR : (headSpec (jw yX14_inCache cX14_inCache 4 (some .int)) ({ frames := 0, cells := 0, slots := 0, locals := 0 })).room = R
  subst hH0
  have hh : jSt (dC, dI) B base G0 G0 EX14_inCache s.heap 0 0 [(r0, 16, 66, .int pq)] [] [] s.heap [] := jSt.start hX hP0 jMc.nil jIs.nil
  clear hX hP0
  have hkm1 : ((-1) : Int32).toInt = (-1) := by decide
  have hk0 : (0 : Int32).toInt = 0 := by decide
  have hk1 : (1 : Int32).toInt = 1 := by decide
  have hk1600 : (1600 : Int32).toInt = 1600 := by decide
  have hly_16_66 := htw (u_lay RX14 TX14 66) (jWc_wsX140 _ (u_in_lay (by decide)))
  have hly_16_67 := htw (u_lay RX14 TX14 67) (jWc_wsX140 _ (u_in_lay (by decide)))
  have hly_16_68 := htw (u_lay RX14 TX14 68) (jWc_wsX140 _ (u_in_lay (by decide)))
  have hly_16_69 := htw (u_lay RX14 TX14 69) (jWc_wsX140 _ (u_in_lay (by decide)))
  have hly_16_70 := htw (u_lay RX14 TX14 70) (jWc_wsX140 _ (u_in_lay (by decide)))
  have hlk_769 := (htw (.fieldLink RX14 769 "ProofServerModel" "cached" "I") (jWr_90 _ (List.mem_of_getElem? (i := 22) rfl)))
  have hlk_145 := (htw (.fieldLink RX14 145 "ProofServerModel" "cacheLength" "[I") (jWr_12 _ (List.mem_of_getElem? (i := 21) rfl)))
  have hlk_766 := (htw (.fieldLink RX14 766 "ProofServerModel" "rowLength" "I") (jWr_90 _ (List.mem_of_getElem? (i := 17) rfl)))
  have hlk_142 := (htw (.fieldLink RX14 142 "ProofServerModel" "cacheUnits" "[I") (jWr_12 _ (List.mem_of_getElem? (i := 20) rfl)))
  have hlk_148 := (htw (.fieldLink RX14 148 "ProofServerModel" "row" "[I") (jWr_12 _ (List.mem_of_getElem? (i := 22) rfl)))
  refine lv_iconst (v := 0) hx hb dX14_inCache_0 (by decide) ?_
  refine lv_istore_n (lv' := [(1, .int 0), (0, .ref r0)]) hx hb dX14_inCache_1 rfl hl (by decide) rfl (fun ls hl => ?_)
  obtain ⟨v_1, hv_1, hh_2⟩ := hh.pin (C := RX14) (T := TX14) (N := 74) hB16 rfl (by decide) hg_r0 (i := 70) (by decide) rfl
  obtain ⟨rowLength_3, rfl, hlorowLength_3, hhirowLength_3⟩ := hv_1
  have L2 : ∀ (N : Nat) (v1_4 : Int32) (H_4 : Heap) (locs_4 : List Loc), jSt (dC, dI) B base G0 G0 EX14_inCache s.heap 0 0 [(r0, 16, 70, .int rowLength_3), (r0, 16, 66, .int pq)] [] [] H_4 locs_4 → (0 ≤ v1_4.toInt ∧ v1_4.toInt ≤ pq.toInt) → (pq.toInt - v1_4.toInt : Int) < N → ∀ ls : Array Slot, lv_has ls 4 [(0, .ref r0), (1, .int v1_4)] → W p l e R s m ([.ref r0] : List Value).toArray below meth c H_4 locs_4 0 0 Q (F0 m 2 ls []) := by
    intro N
    induction N with
    | zero => intro v1_4 H_4 locs_4 hh_4  hi_4 hm; exact absurd hm (by omega)
    | succ N L2 =>
      intro v1_4 H_4 locs_4 hh_4  hi_4 hm_4 ls hl
      obtain ⟨hi_4_0, hi_4_1⟩ := hi_4
      refine lv_iload_n hx hb dX14_inCache_2 rfl (lv_at hl 1 rfl) ?_
      refine lv_aload_n hx hb dX14_inCache_3 rfl (lv_at hl 0 rfl) ?_
      refine j7_read hx hb hown hK (C := RX14) (T := TX14) (N := 74) rfl hly_16_66 hlk_769 (hh_4.at 1 rfl) dX14_inCache_4 ?_
      refine lv_icmp_ge (tgt := 88) hx hb dX14_inCache_7 (by decide) (fun c_5 => ?_) (fun c_5 => ?_)
      · skip
        have c_5' : v1_4.toInt ≥ pq.toInt := jb_ge (rfl) (rfl) c_5
        refine lv_iconst (v := (-1)) hx hb dX14_inCache_88 (by decide) ?_
        rw [hQ]
        exact W.iret (v := (-1)) hx hb hr (fun t ht hW => ⟨⟨(-1), (), rfl, by first | omega | (refine ⟨?_, ?_, ?_⟩ <;> (first | omega | rfl | assumption | decide | exact Or.inl rfl | exact Or.inr rfl | (simp only; omega))), hh_4.rt (M1 := []) [] rfl ht⟩, by rw [ht]; try exact hh_4.1.1, fun q h9 hq => by rw [ht]; try exact hh_4.1.2.1 q h9 hq⟩) hh_4.1.2.2 dX14_inCache_89
      · skip
        have c_5' : v1_4.toInt < pq.toInt := jb_ge_n (rfl) (rfl) c_5
        refine lv_aload_n hx hb dX14_inCache_10 rfl (lv_at hl 0 rfl) ?_
        obtain ⟨v_6, hv_6, hh_7⟩ := hh_4.pin (C := RX14) (T := TX14) (N := 74) hB16 rfl (by decide) hg_r0 (i := 68) (by decide) rfl
        clear hh_4
        obtain ⟨cacheLength_8, rfl, hg_cacheLength_8⟩ := hv_6
        refine j7_read hx hb hown hK (C := RX14) (T := TX14) (N := 74) rfl hly_16_68 hlk_145 (hh_7.at 0 rfl) dX14_inCache_11 ?_
        refine lv_iload_n hx hb dX14_inCache_14 rfl (lv_at hl 1 rfl) ?_
        refine j7_iald hx hb hK hh_7 hB205 1 rfl (by decide) hg_cacheLength_8 (x := v1_4.toInt) (rfl) (by omega) dX14_inCache_15 (fun z_9 (hz_9 : 0 ≤ z_9.toInt ∧ z_9.toInt ≤ 1600) => ?_)
        refine lv_aload_n hx hb dX14_inCache_16 rfl (lv_at hl 0 rfl) ?_
        refine j7_read hx hb hown hK (C := RX14) (T := TX14) (N := 74) rfl hly_16_70 hlk_766 (hh_7.at 1 rfl) dX14_inCache_17 ?_
        have C28 : ∀ (w0_10 : Int32) (H_10 : Heap) (locs_10 : List Loc), jSt (dC, dI) B base G0 G0 EX14_inCache s.heap 0 0 [(r0, 16, 68, .ref cacheLength_8), (r0, 16, 70, .int rowLength_3), (r0, 16, 66, .int pq)] [] [] H_10 locs_10 → (w0_10 = 0 ∨ w0_10 = 1) → (True) → ∀ ls : Array Slot, lv_has ls 4 [(0, .ref r0), (1, .int v1_4)] → W p l e R s m ([.ref r0] : List Value).toArray below meth c H_10 locs_10 0 0 Q (F0 m 28 ls [.int w0_10]) := by
          intro w0_10 H_10 locs_10 hh_10 hb_w0_10 hi_10 ls hl
          have hb_w0_10' := jb_01 hb_w0_10
          refine lv_istore_n (lv' := [(2, .int w0_10), (0, .ref r0), (1, .int v1_4)]) hx hb dX14_inCache_28 rfl hl (by decide) rfl (fun ls hl => ?_)
          refine lv_iconst (v := 0) hx hb dX14_inCache_29 (by decide) ?_
          refine lv_istore_n (lv' := [(3, .int 0), (2, .int w0_10), (0, .ref r0), (1, .int v1_4)]) hx hb dX14_inCache_30 rfl hl (by decide) rfl (fun ls hl => ?_)
          have L31 : ∀ (N : Nat) (v2_11 : Int32) (v3_11 : Int32) (H_11 : Heap) (locs_11 : List Loc), jSt (dC, dI) B base G0 G0 EX14_inCache s.heap 0 0 [(r0, 16, 68, .ref cacheLength_8), (r0, 16, 70, .int rowLength_3), (r0, 16, 66, .int pq)] [] [] H_11 locs_11 → (v2_11 = 0 ∨ v2_11 = 1) → (0 ≤ v3_11.toInt ∧ v3_11.toInt ≤ 1600) → (((rowLength_3.toInt - v3_11.toInt).toNat : Int) : Int) < N → ∀ ls : Array Slot, lv_has ls 4 [(0, .ref r0), (1, .int v1_4), (2, .int v2_11), (3, .int v3_11)] → W p l e R s m ([.ref r0] : List Value).toArray below meth c H_11 locs_11 0 0 Q (F0 m 31 ls []) := by
            intro N
            induction N with
            | zero => intro v2_11 v3_11 H_11 locs_11 hh_11 hb_v2_11 hi_11 hm; exact absurd hm (by omega)
            | succ N L31 =>
              intro v2_11 v3_11 H_11 locs_11 hh_11 hb_v2_11 hi_11 hm_11 ls hl
              obtain ⟨hi_11_0, hi_11_1⟩ := hi_11
              have hb_v2_11' := jb_01 hb_v2_11
              refine lv_iload_n hx hb dX14_inCache_31 rfl (lv_at hl 3 rfl) ?_
              refine lv_aload_n hx hb dX14_inCache_32 rfl (lv_at hl 0 rfl) ?_
              refine j7_read hx hb hown hK (C := RX14) (T := TX14) (N := 74) rfl hly_16_70 hlk_766 (hh_11.at 1 rfl) dX14_inCache_33 ?_
              refine lv_icmp_ge (tgt := 76) hx hb dX14_inCache_36 (by decide) (fun c_12 => ?_) (fun c_12 => ?_)
              · skip
                have c_12' : v3_11.toInt ≥ rowLength_3.toInt := jb_ge (rfl) (rfl) c_12
                refine lv_iload_n hx hb dX14_inCache_76 rfl (lv_at hl 2 rfl) ?_
                refine lv_if_eq (tgt := 82) hx hb dX14_inCache_77 (by decide) (fun c_13 => ?_) (fun c_13 => ?_)
                · skip
                  have c_13' : v2_11.toInt = 0 := jb_eq (rfl) ((by decide)) c_13
                  obtain ⟨z_14, ez_14⟩ : ∃ y : Int32, y = v1_4 + 1 := ⟨_, rfl⟩
                  refine lv_iinc (v := z_14) (lv' := [(1, .int z_14), (0, .ref r0), (2, .int v2_11), (3, .int v3_11)]) hx hb dX14_inCache_82 hl (k := 1) rfl (by rw [ez_14]; rfl) (by decide) rfl (fun ls hl => ?_)
                  have hz_14 : z_14.toInt = v1_4.toInt + 1 := by rw [ez_14]; exact jb_iadd2 (rfl) (by decide) (by omega)
                  refine lv_goto (tgt := 2) hx hb dX14_inCache_85 (by decide) ?_
                  exact L2 z_14 _ _ (hh_11.sub (L1 := [(r0, 16, 70, .int rowLength_3), (r0, 16, 66, .int pq)]) [1, 2] rfl (M1 := []) [] rfl (I1 := []) [] rfl) (by first | omega | (refine ⟨?_, ?_⟩ <;> (first | omega | rfl | assumption | decide | exact Or.inl rfl | exact Or.inr rfl | (simp only; omega)))) (by omega) _ (lv_sub hl [1, 0] rfl)
                · skip
                  have c_13' : v2_11.toInt ≠ 0 := jb_eq_n (rfl) ((by decide)) c_13
                  refine lv_iload_n hx hb dX14_inCache_80 rfl (lv_at hl 1 rfl) ?_
                  rw [hQ]
                  exact W.iret (v := v1_4) hx hb hr (fun t ht hW => ⟨⟨v1_4, (), rfl, by first | omega | (refine ⟨?_, ?_, ?_⟩ <;> (first | omega | rfl | assumption | decide | exact Or.inl rfl | exact Or.inr rfl | (simp only; omega))), hh_11.rt (M1 := []) [] rfl ht⟩, by rw [ht]; try exact hh_11.1.1, fun q h9 hq => by rw [ht]; try exact hh_11.1.2.1 q h9 hq⟩) hh_11.1.2.2 dX14_inCache_81
              · skip
                have c_12' : v3_11.toInt < rowLength_3.toInt := jb_ge_n (rfl) (rfl) c_12
                refine lv_iload_n hx hb dX14_inCache_39 rfl (lv_at hl 2 rfl) ?_
                refine lv_if_eq (tgt := 76) hx hb dX14_inCache_40 (by decide) (fun c_15 => ?_) (fun c_15 => ?_)
                · skip
                  have c_15' : v2_11.toInt = 0 := jb_eq (rfl) ((by decide)) c_15
                  refine lv_iload_n hx hb dX14_inCache_76 rfl (lv_at hl 2 rfl) ?_
                  refine lv_if_eq (tgt := 82) hx hb dX14_inCache_77 (by decide) (fun c_16 => ?_) (fun c_16 => ?_)
                  · skip
                    have c_16' : v2_11.toInt = 0 := jb_eq (rfl) ((by decide)) c_16
                    obtain ⟨z_17, ez_17⟩ : ∃ y : Int32, y = v1_4 + 1 := ⟨_, rfl⟩
                    refine lv_iinc (v := z_17) (lv' := [(1, .int z_17), (0, .ref r0), (2, .int v2_11), (3, .int v3_11)]) hx hb dX14_inCache_82 hl (k := 1) rfl (by rw [ez_17]; rfl) (by decide) rfl (fun ls hl => ?_)
                    have hz_17 : z_17.toInt = v1_4.toInt + 1 := by rw [ez_17]; exact jb_iadd2 (rfl) (by decide) (by omega)
                    refine lv_goto (tgt := 2) hx hb dX14_inCache_85 (by decide) ?_
                    exact L2 z_17 _ _ (hh_11.sub (L1 := [(r0, 16, 70, .int rowLength_3), (r0, 16, 66, .int pq)]) [1, 2] rfl (M1 := []) [] rfl (I1 := []) [] rfl) (by first | omega | (refine ⟨?_, ?_⟩ <;> (first | omega | rfl | assumption | decide | exact Or.inl rfl | exact Or.inr rfl | (simp only; omega)))) (by omega) _ (lv_sub hl [1, 0] rfl)
                  · skip
                    have c_16' : v2_11.toInt ≠ 0 := jb_eq_n (rfl) ((by decide)) c_16
                    exact (by omega : False).elim
                · skip
                  have c_15' : v2_11.toInt ≠ 0 := jb_eq_n (rfl) ((by decide)) c_15
                  refine lv_aload_n hx hb dX14_inCache_43 rfl (lv_at hl 0 rfl) ?_
                  obtain ⟨v_18, hv_18, hh_19⟩ := hh_11.pin (C := RX14) (T := TX14) (N := 74) hB16 rfl (by decide) hg_r0 (i := 67) (by decide) rfl
                  clear hh_11
                  obtain ⟨cacheUnits_20, rfl, hg_cacheUnits_20⟩ := hv_18
                  refine j7_read hx hb hown hK (C := RX14) (T := TX14) (N := 74) rfl hly_16_67 hlk_142 (hh_19.at 0 rfl) dX14_inCache_44 ?_
                  refine lv_sipush (v := 1600) hx hb dX14_inCache_47 (by decide) ?_
                  refine lv_iload_n hx hb dX14_inCache_50 rfl (lv_at hl 1 rfl) ?_
                  refine lv_imul hx hb dX14_inCache_51 ?_
                  refine lv_topi (fun z_21 ez_21 => ?_)
                  have hz_21 : z_21.toInt = 1600 * v1_4.toInt := by rw [ez_21]; exact jb_imul2 ((by decide)) (rfl) (by omega)
                  refine lv_iload_n hx hb dX14_inCache_52 rfl (lv_at hl 3 rfl) ?_
                  refine lv_iadd hx hb dX14_inCache_53 ?_
                  refine lv_topi (fun z_22 ez_22 => ?_)
                  have hz_22 : z_22.toInt = z_21.toInt + v3_11.toInt := by rw [ez_22]; exact jb_iadd2 (rfl) (rfl) (by omega)
                  refine j7_iald hx hb hK hh_19 hB101 1 rfl (by decide) hg_cacheUnits_20 (x := z_22.toInt) (rfl) (by omega) dX14_inCache_54 (fun z_23 (hz_23 : True) => ?_)
                  refine lv_aload_n hx hb dX14_inCache_55 rfl (lv_at hl 0 rfl) ?_
                  obtain ⟨v_24, hv_24, hh_25⟩ := hh_19.pin (C := RX14) (T := TX14) (N := 74) hB16 rfl (by decide) hg_r0 (i := 69) (by decide) rfl
                  clear hh_19
                  obtain ⟨row_26, rfl, hg_row_26⟩ := hv_24
                  refine j7_read hx hb hown hK (C := RX14) (T := TX14) (N := 74) rfl hly_16_69 hlk_148 (hh_25.at 0 rfl) dX14_inCache_56 ?_
                  refine lv_iload_n hx hb dX14_inCache_59 rfl (lv_at hl 3 rfl) ?_
                  refine j7_iald hx hb hK hh_25 hB101 1 rfl (by decide) hg_row_26 (x := v3_11.toInt) (rfl) (by omega) dX14_inCache_60 (fun z_27 (hz_27 : True) => ?_)
                  refine lv_icmp_ne (tgt := 68) hx hb dX14_inCache_61 (by decide) (fun c_28 => ?_) (fun c_28 => ?_)
                  · skip
                    have c_28' : z_23.toInt ≠ z_27.toInt := jb_ne (rfl) (rfl) c_28
                    refine lv_iconst (v := 0) hx hb dX14_inCache_68 (by decide) ?_
                    refine lv_istore_n (lv' := [(2, .int 0), (0, .ref r0), (1, .int v1_4), (3, .int v3_11)]) hx hb dX14_inCache_69 rfl hl (by decide) rfl (fun ls hl => ?_)
                    obtain ⟨z_29, ez_29⟩ : ∃ y : Int32, y = v3_11 + 1 := ⟨_, rfl⟩
                    refine lv_iinc (v := z_29) (lv' := [(3, .int z_29), (2, .int 0), (0, .ref r0), (1, .int v1_4)]) hx hb dX14_inCache_70 hl (k := 3) rfl (by rw [ez_29]; rfl) (by decide) rfl (fun ls hl => ?_)
                    have hz_29 : z_29.toInt = v3_11.toInt + 1 := by rw [ez_29]; exact jb_iadd2 (rfl) (by decide) (by omega)
                    refine lv_goto (tgt := 31) hx hb dX14_inCache_73 (by decide) ?_
                    exact L31 0 z_29 _ _ (hh_25.sub (L1 := [(r0, 16, 68, .ref cacheLength_8), (r0, 16, 70, .int rowLength_3), (r0, 16, 66, .int pq)]) [2, 3, 4] rfl (M1 := []) [] rfl (I1 := []) [] rfl) (Or.inl rfl) (by first | omega | (refine ⟨?_, ?_⟩ <;> (first | omega | rfl | assumption | decide | exact Or.inl rfl | exact Or.inr rfl | (simp only; omega)))) (by omega) _ (lv_sub hl [2, 3, 1, 0] rfl)
                  · skip
                    have c_28' : z_23.toInt = z_27.toInt := jb_ne_n (rfl) (rfl) c_28
                    refine lv_iconst (v := 1) hx hb dX14_inCache_64 (by decide) ?_
                    refine lv_goto (tgt := 69) hx hb dX14_inCache_65 (by decide) ?_
                    refine lv_istore_n (lv' := [(2, .int 1), (0, .ref r0), (1, .int v1_4), (3, .int v3_11)]) hx hb dX14_inCache_69 rfl hl (by decide) rfl (fun ls hl => ?_)
                    obtain ⟨z_30, ez_30⟩ : ∃ y : Int32, y = v3_11 + 1 := ⟨_, rfl⟩
                    refine lv_iinc (v := z_30) (lv' := [(3, .int z_30), (2, .int 1), (0, .ref r0), (1, .int v1_4)]) hx hb dX14_inCache_70 hl (k := 3) rfl (by rw [ez_30]; rfl) (by decide) rfl (fun ls hl => ?_)
                    have hz_30 : z_30.toInt = v3_11.toInt + 1 := by rw [ez_30]; exact jb_iadd2 (rfl) (by decide) (by omega)
                    refine lv_goto (tgt := 31) hx hb dX14_inCache_73 (by decide) ?_
                    exact L31 1 z_30 _ _ (hh_25.sub (L1 := [(r0, 16, 68, .ref cacheLength_8), (r0, 16, 70, .int rowLength_3), (r0, 16, 66, .int pq)]) [2, 3, 4] rfl (M1 := []) [] rfl (I1 := []) [] rfl) (Or.inr rfl) (by first | omega | (refine ⟨?_, ?_⟩ <;> (first | omega | rfl | assumption | decide | exact Or.inl rfl | exact Or.inr rfl | (simp only; omega)))) (by omega) _ (lv_sub hl [2, 3, 1, 0] rfl)
          exact L31 (((rowLength_3.toInt - (0 : Int32).toInt).toNat : Int) : Int).toNat.succ w0_10 0 _ _ hh_10 (hb_w0_10) (by first | omega | (refine ⟨?_, ?_⟩ <;> (first | omega | rfl | assumption | decide | exact Or.inl rfl | exact Or.inr rfl | (simp only; omega)))) (by omega) _ (lv_sub hl [2, 3, 1, 0] rfl)
        refine lv_icmp_ne (tgt := 27) hx hb dX14_inCache_20 (by decide) (fun c_31 => ?_) (fun c_31 => ?_)
        · skip
          have c_31' : z_9.toInt ≠ rowLength_3.toInt := jb_ne (rfl) (rfl) c_31
          refine lv_iconst (v := 0) hx hb dX14_inCache_27 (by decide) ?_
          exact C28 0 _ _ hh_7 (Or.inl rfl) (trivial) _ (lv_sub hl [0, 1] rfl)
        · skip
          have c_31' : z_9.toInt = rowLength_3.toInt := jb_ne_n (rfl) (rfl) c_31
          refine lv_iconst (v := 1) hx hb dX14_inCache_23 (by decide) ?_
          refine lv_goto (tgt := 28) hx hb dX14_inCache_24 (by decide) ?_
          exact C28 1 _ _ hh_7 (Or.inr rfl) (trivial) _ (lv_sub hl [0, 1] rfl)
  exact L2 (pq.toInt - (0 : Int32).toInt : Int).toNat.succ 0 _ _ hh_2 (by first | omega | (refine ⟨?_, ?_⟩ <;> (first | omega | rfl | assumption | decide | exact Or.inl rfl | exact Or.inr rfl | (simp only; omega)))) (by omega) _ (lv_sub hl [1, 0] rfl)
