section
theorem dX5_declare_0 : decode cX5_declare 0 = .ok (.aload_n 0, 1) := by decide +kernel
theorem dX5_declare_1 : decode cX5_declare 1 = .ok (.getfield 23, 3) := by decide +kernel
theorem dX5_declare_4 : decode cX5_declare 4 = .ok (.getfield 93, 3) := by decide +kernel
theorem dX5_declare_7 : decode cX5_declare 7 = .ok (.iconst 0, 1) := by decide +kernel
theorem dX5_declare_8 : decode cX5_declare 8 = .ok (.iaload, 1) := by decide +kernel
theorem dX5_declare_9 : decode cX5_declare 9 = .ok (.istore_n 2, 1) := by decide +kernel
theorem dX5_declare_10 : decode cX5_declare 10 = .ok (.aload_n 1, 1) := by decide +kernel
theorem dX5_declare_11 : decode cX5_declare 11 = .ok (.aconst_null, 1) := by decide +kernel
theorem dX5_declare_12 : decode cX5_declare 12 = .ok (.iload_n 2, 1) := by decide +kernel
theorem dX5_declare_13 : decode cX5_declare 13 = .ok (.invokestatic 96, 3) := by decide +kernel
theorem dX5_declare_16 : decode cX5_declare 16 = .ok (.ifCond .eq 6, 3) := by decide +kernel
theorem dX5_declare_19 : decode cX5_declare 19 = .ok (.bipush 6, 2) := by decide +kernel
theorem dX5_declare_21 : decode cX5_declare 21 = .ok (.ireturn, 1) := by decide +kernel
theorem dX5_declare_22 : decode cX5_declare 22 = .ok (.aload_n 1, 1) := by decide +kernel
theorem dX5_declare_23 : decode cX5_declare 23 = .ok (.getfield 100, 3) := by decide +kernel
theorem dX5_declare_26 : decode cX5_declare 26 = .ok (.arraylength, 1) := by decide +kernel
theorem dX5_declare_27 : decode cX5_declare 27 = .ok (.bipush 16, 2) := by decide +kernel
theorem dX5_declare_29 : decode cX5_declare 29 = .ok (.if_icmp .lt 6, 3) := by decide +kernel
theorem dX5_declare_32 : decode cX5_declare 32 = .ok (.bipush 9, 2) := by decide +kernel
theorem dX5_declare_34 : decode cX5_declare 34 = .ok (.ireturn, 1) := by decide +kernel
theorem dX5_declare_35 : decode cX5_declare 35 = .ok (.aload_n 0, 1) := by decide +kernel
theorem dX5_declare_36 : decode cX5_declare 36 = .ok (.getfield 23, 3) := by decide +kernel
theorem dX5_declare_39 : decode cX5_declare 39 = .ok (.getfield 74, 3) := by decide +kernel
theorem dX5_declare_42 : decode cX5_declare 42 = .ok (.iconst 3, 1) := by decide +kernel
theorem dX5_declare_43 : decode cX5_declare 43 = .ok (.if_icmp .ne 8, 3) := by decide +kernel
theorem dX5_declare_46 : decode cX5_declare 46 = .ok (.bipush 8, 2) := by decide +kernel
theorem dX5_declare_48 : decode cX5_declare 48 = .ok (.goto 5, 3) := by decide +kernel
theorem dX5_declare_51 : decode cX5_declare 51 = .ok (.bipush 7, 2) := by decide +kernel
theorem dX5_declare_53 : decode cX5_declare 53 = .ok (.istore_n 3, 1) := by decide +kernel
theorem dX5_declare_54 : decode cX5_declare 54 = .ok (.aload_n 1, 1) := by decide +kernel
theorem dX5_declare_55 : decode cX5_declare 55 = .ok (.aload_n 1, 1) := by decide +kernel
theorem dX5_declare_56 : decode cX5_declare 56 = .ok (.getfield 100, 3) := by decide +kernel
theorem dX5_declare_59 : decode cX5_declare 59 = .ok (.iload_n 3, 1) := by decide +kernel
theorem dX5_declare_60 : decode cX5_declare 60 = .ok (.aload_n 0, 1) := by decide +kernel
theorem dX5_declare_61 : decode cX5_declare 61 = .ok (.getfield 23, 3) := by decide +kernel
theorem dX5_declare_64 : decode cX5_declare 64 = .ok (.getfield 103, 3) := by decide +kernel
theorem dX5_declare_67 : decode cX5_declare 67 = .ok (.iconst 4, 1) := by decide +kernel
theorem dX5_declare_68 : decode cX5_declare 68 = .ok (.ishl, 1) := by decide +kernel
theorem dX5_declare_69 : decode cX5_declare 69 = .ok (.ior, 1) := by decide +kernel
theorem dX5_declare_70 : decode cX5_declare 70 = .ok (.iload_n 2, 1) := by decide +kernel
theorem dX5_declare_71 : decode cX5_declare 71 = .ok (.bipush 15, 2) := by decide +kernel
theorem dX5_declare_73 : decode cX5_declare 73 = .ok (.ishl, 1) := by decide +kernel
theorem dX5_declare_74 : decode cX5_declare 74 = .ok (.ior, 1) := by decide +kernel
theorem dX5_declare_75 : decode cX5_declare 75 = .ok (.invokestatic 106, 3) := by decide +kernel
theorem dX5_declare_78 : decode cX5_declare 78 = .ok (.putfield 100, 3) := by decide +kernel
theorem dX5_declare_81 : decode cX5_declare 81 = .ok (.iconst 0, 1) := by decide +kernel
theorem dX5_declare_82 : decode cX5_declare 82 = .ok (.ireturn, 1) := by decide +kernel
theorem dX5_propose_0 : decode cX5_propose 0 = .ok (.aload_n 0, 1) := by decide +kernel
theorem dX5_propose_1 : decode cX5_propose 1 = .ok (.getfield 23, 3) := by decide +kernel
theorem dX5_propose_4 : decode cX5_propose 4 = .ok (.getfield 93, 3) := by decide +kernel
theorem dX5_propose_7 : decode cX5_propose 7 = .ok (.iconst 0, 1) := by decide +kernel
theorem dX5_propose_8 : decode cX5_propose 8 = .ok (.iaload, 1) := by decide +kernel
theorem dX5_propose_9 : decode cX5_propose 9 = .ok (.istore_n 2, 1) := by decide +kernel
theorem dX5_propose_10 : decode cX5_propose 10 = .ok (.aload_n 1, 1) := by decide +kernel
theorem dX5_propose_11 : decode cX5_propose 11 = .ok (.aconst_null, 1) := by decide +kernel
theorem dX5_propose_12 : decode cX5_propose 12 = .ok (.iload_n 2, 1) := by decide +kernel
theorem dX5_propose_13 : decode cX5_propose 13 = .ok (.invokestatic 96, 3) := by decide +kernel
theorem dX5_propose_16 : decode cX5_propose 16 = .ok (.ifCond .eq 6, 3) := by decide +kernel
theorem dX5_propose_19 : decode cX5_propose 19 = .ok (.bipush 6, 2) := by decide +kernel
theorem dX5_propose_21 : decode cX5_propose 21 = .ok (.ireturn, 1) := by decide +kernel
theorem dX5_propose_22 : decode cX5_propose 22 = .ok (.aload_n 0, 1) := by decide +kernel
theorem dX5_propose_23 : decode cX5_propose 23 = .ok (.aload_n 1, 1) := by decide +kernel
theorem dX5_propose_24 : decode cX5_propose 24 = .ok (.aconst_null, 1) := by decide +kernel
theorem dX5_propose_25 : decode cX5_propose 25 = .ok (.invokevirtual 110, 3) := by decide +kernel
theorem dX5_propose_28 : decode cX5_propose 28 = .ok (.ifCond .ne 5, 3) := by decide +kernel
theorem dX5_propose_31 : decode cX5_propose 31 = .ok (.iconst 5, 1) := by decide +kernel
theorem dX5_propose_32 : decode cX5_propose 32 = .ok (.ireturn, 1) := by decide +kernel
theorem dX5_propose_33 : decode cX5_propose 33 = .ok (.aload_n 0, 1) := by decide +kernel
theorem dX5_propose_34 : decode cX5_propose 34 = .ok (.getfield 23, 3) := by decide +kernel
theorem dX5_propose_37 : decode cX5_propose 37 = .ok (.getfield 74, 3) := by decide +kernel
theorem dX5_propose_40 : decode cX5_propose 40 = .ok (.iconst 5, 1) := by decide +kernel
theorem dX5_propose_41 : decode cX5_propose 41 = .ok (.if_icmp .ne 7, 3) := by decide +kernel
theorem dX5_propose_44 : decode cX5_propose 44 = .ok (.iconst 1, 1) := by decide +kernel
theorem dX5_propose_45 : decode cX5_propose 45 = .ok (.goto 4, 3) := by decide +kernel
theorem dX5_propose_48 : decode cX5_propose 48 = .ok (.iconst 0, 1) := by decide +kernel
theorem dX5_propose_49 : decode cX5_propose 49 = .ok (.istore_n 3, 1) := by decide +kernel
theorem dX5_propose_50 : decode cX5_propose 50 = .ok (.aload_n 0, 1) := by decide +kernel
theorem dX5_propose_51 : decode cX5_propose 51 = .ok (.getfield 23, 3) := by decide +kernel
theorem dX5_propose_54 : decode cX5_propose 54 = .ok (.getfield 114, 3) := by decide +kernel
theorem dX5_propose_57 : decode cX5_propose 57 = .ok (.bipush 80, 2) := by decide +kernel
theorem dX5_propose_59 : decode cX5_propose 59 = .ok (.if_icmp .gt 17, 3) := by decide +kernel
theorem dX5_propose_62 : decode cX5_propose 62 = .ok (.iload_n 3, 1) := by decide +kernel
theorem dX5_propose_63 : decode cX5_propose 63 = .ok (.ifCond .eq 16, 3) := by decide +kernel
theorem dX5_propose_66 : decode cX5_propose 66 = .ok (.aload_n 1, 1) := by decide +kernel
theorem dX5_propose_67 : decode cX5_propose 67 = .ok (.getfield 117, 3) := by decide +kernel
theorem dX5_propose_70 : decode cX5_propose 70 = .ok (.arraylength, 1) := by decide +kernel
theorem dX5_propose_71 : decode cX5_propose 71 = .ok (.bipush 16, 2) := by decide +kernel
theorem dX5_propose_73 : decode cX5_propose 73 = .ok (.if_icmp .lt 6, 3) := by decide +kernel
theorem dX5_propose_76 : decode cX5_propose 76 = .ok (.bipush 9, 2) := by decide +kernel
theorem dX5_propose_78 : decode cX5_propose 78 = .ok (.ireturn, 1) := by decide +kernel
theorem dX5_propose_79 : decode cX5_propose 79 = .ok (.aload_n 0, 1) := by decide +kernel
theorem dX5_propose_80 : decode cX5_propose 80 = .ok (.getfield 23, 3) := by decide +kernel
theorem dX5_propose_83 : decode cX5_propose 83 = .ok (.getfield 121, 3) := by decide +kernel
theorem dX5_propose_86 : decode cX5_propose 86 = .ok (.aload_n 0, 1) := by decide +kernel
theorem dX5_propose_87 : decode cX5_propose 87 = .ok (.getfield 23, 3) := by decide +kernel
theorem dX5_propose_90 : decode cX5_propose 90 = .ok (.getfield 114, 3) := by decide +kernel
theorem dX5_propose_93 : decode cX5_propose 93 = .ok (.invokestatic 124, 3) := by decide +kernel
theorem dX5_propose_96 : decode cX5_propose 96 = .ok (.astore 4, 2) := by decide +kernel
theorem dX5_propose_98 : decode cX5_propose 98 = .ok (.iload_n 3, 1) := by decide +kernel
theorem dX5_propose_99 : decode cX5_propose 99 = .ok (.ifCond .eq 13, 3) := by decide +kernel
theorem dX5_propose_102 : decode cX5_propose 102 = .ok (.aload_n 1, 1) := by decide +kernel
theorem dX5_propose_103 : decode cX5_propose 103 = .ok (.iload_n 2, 1) := by decide +kernel
theorem dX5_propose_104 : decode cX5_propose 104 = .ok (.aload 4, 2) := by decide +kernel
theorem dX5_propose_106 : decode cX5_propose 106 = .ok (.invokevirtual 129, 3) := by decide +kernel
theorem dX5_propose_109 : decode cX5_propose 109 = .ok (.goto 44, 3) := by decide +kernel
theorem dX5_propose_112 : decode cX5_propose 112 = .ok (.aload_n 1, 1) := by decide +kernel
theorem dX5_propose_113 : decode cX5_propose 113 = .ok (.iload_n 2, 1) := by decide +kernel
theorem dX5_propose_114 : decode cX5_propose 114 = .ok (.putfield 77, 3) := by decide +kernel
theorem dX5_propose_117 : decode cX5_propose 117 = .ok (.aload_n 1, 1) := by decide +kernel
theorem dX5_propose_118 : decode cX5_propose 118 = .ok (.aload 4, 2) := by decide +kernel
theorem dX5_propose_120 : decode cX5_propose 120 = .ok (.putfield 133, 3) := by decide +kernel
theorem dX5_propose_123 : decode cX5_propose 123 = .ok (.aload_n 1, 1) := by decide +kernel
theorem dX5_propose_124 : decode cX5_propose 124 = .ok (.iconst 1, 1) := by decide +kernel
theorem dX5_propose_125 : decode cX5_propose 125 = .ok (.anewarray 53, 3) := by decide +kernel
theorem dX5_propose_128 : decode cX5_propose 128 = .ok (.dup, 1) := by decide +kernel
theorem dX5_propose_129 : decode cX5_propose 129 = .ok (.iconst 0, 1) := by decide +kernel
theorem dX5_propose_130 : decode cX5_propose 130 = .ok (.new 53, 3) := by decide +kernel
theorem dX5_propose_133 : decode cX5_propose 133 = .ok (.dup, 1) := by decide +kernel
theorem dX5_propose_134 : decode cX5_propose 134 = .ok (.iconst 0, 1) := by decide +kernel
theorem dX5_propose_135 : decode cX5_propose 135 = .ok (.newarray .int, 2) := by decide +kernel
theorem dX5_propose_137 : decode cX5_propose 137 = .ok (.iconst 0, 1) := by decide +kernel
theorem dX5_propose_138 : decode cX5_propose 138 = .ok (.newarray .int, 2) := by decide +kernel
theorem dX5_propose_140 : decode cX5_propose 140 = .ok (.iconst 0, 1) := by decide +kernel
theorem dX5_propose_141 : decode cX5_propose 141 = .ok (.anewarray 136, 3) := by decide +kernel
theorem dX5_propose_144 : decode cX5_propose 144 = .ok (.aload 4, 2) := by decide +kernel
theorem dX5_propose_146 : decode cX5_propose 146 = .ok (.invokespecial 137, 3) := by decide +kernel
theorem dX5_propose_149 : decode cX5_propose 149 = .ok (.aastore, 1) := by decide +kernel
theorem dX5_propose_150 : decode cX5_propose 150 = .ok (.putfield 140, 3) := by decide +kernel
theorem dX5_propose_153 : decode cX5_propose 153 = .ok (.iconst 0, 1) := by decide +kernel
theorem dX5_propose_154 : decode cX5_propose 154 = .ok (.ireturn, 1) := by decide +kernel
theorem dX5_leaveProof_0 : decode cX5_leaveProof 0 = .ok (.aload_n 0, 1) := by decide +kernel
theorem dX5_leaveProof_1 : decode cX5_leaveProof 1 = .ok (.getfield 23, 3) := by decide +kernel
theorem dX5_leaveProof_4 : decode cX5_leaveProof 4 = .ok (.getfield 74, 3) := by decide +kernel
theorem dX5_leaveProof_7 : decode cX5_leaveProof 7 = .ok (.bipush 7, 2) := by decide +kernel
theorem dX5_leaveProof_9 : decode cX5_leaveProof 9 = .ok (.if_icmp .ne 39, 3) := by decide +kernel
theorem dX5_leaveProof_12 : decode cX5_leaveProof 12 = .ok (.aload_n 1, 1) := by decide +kernel
theorem dX5_leaveProof_13 : decode cX5_leaveProof 13 = .ok (.getfield 140, 3) := by decide +kernel
theorem dX5_leaveProof_16 : decode cX5_leaveProof 16 = .ok (.arraylength, 1) := by decide +kernel
theorem dX5_leaveProof_17 : decode cX5_leaveProof 17 = .ok (.ifCond .le 6, 3) := by decide +kernel
theorem dX5_leaveProof_20 : decode cX5_leaveProof 20 = .ok (.bipush 7, 2) := by decide +kernel
theorem dX5_leaveProof_22 : decode cX5_leaveProof 22 = .ok (.ireturn, 1) := by decide +kernel
theorem dX5_leaveProof_23 : decode cX5_leaveProof 23 = .ok (.aload_n 1, 1) := by decide +kernel
theorem dX5_leaveProof_24 : decode cX5_leaveProof 24 = .ok (.getfield 117, 3) := by decide +kernel
theorem dX5_leaveProof_27 : decode cX5_leaveProof 27 = .ok (.arraylength, 1) := by decide +kernel
theorem dX5_leaveProof_28 : decode cX5_leaveProof 28 = .ok (.bipush 16, 2) := by decide +kernel
theorem dX5_leaveProof_30 : decode cX5_leaveProof 30 = .ok (.if_icmp .lt 6, 3) := by decide +kernel
theorem dX5_leaveProof_33 : decode cX5_leaveProof 33 = .ok (.bipush 9, 2) := by decide +kernel
theorem dX5_leaveProof_35 : decode cX5_leaveProof 35 = .ok (.ireturn, 1) := by decide +kernel
theorem dX5_leaveProof_36 : decode cX5_leaveProof 36 = .ok (.aload_n 1, 1) := by decide +kernel
theorem dX5_leaveProof_37 : decode cX5_leaveProof 37 = .ok (.aload_n 1, 1) := by decide +kernel
theorem dX5_leaveProof_38 : decode cX5_leaveProof 38 = .ok (.getfield 77, 3) := by decide +kernel
theorem dX5_leaveProof_41 : decode cX5_leaveProof 41 = .ok (.aload_n 1, 1) := by decide +kernel
theorem dX5_leaveProof_42 : decode cX5_leaveProof 42 = .ok (.getfield 133, 3) := by decide +kernel
theorem dX5_leaveProof_45 : decode cX5_leaveProof 45 = .ok (.invokevirtual 129, 3) := by decide +kernel
theorem dX5_leaveProof_48 : decode cX5_leaveProof 48 = .ok (.aload_n 1, 1) := by decide +kernel
theorem dX5_leaveProof_49 : decode cX5_leaveProof 49 = .ok (.invokevirtual 143, 3) := by decide +kernel
theorem dX5_leaveProof_52 : decode cX5_leaveProof 52 = .ok (.iconst 0, 1) := by decide +kernel
theorem dX5_leaveProof_53 : decode cX5_leaveProof 53 = .ok (.ireturn, 1) := by decide +kernel
theorem dX5_tactic_0 : decode cX5_tactic 0 = .ok (.aload_n 1, 1) := by decide +kernel
theorem dX5_tactic_1 : decode cX5_tactic 1 = .ok (.getfield 140, 3) := by decide +kernel
theorem dX5_tactic_4 : decode cX5_tactic 4 = .ok (.arraylength, 1) := by decide +kernel
theorem dX5_tactic_5 : decode cX5_tactic 5 = .ok (.ifCond .le 12, 3) := by decide +kernel
theorem dX5_tactic_8 : decode cX5_tactic 8 = .ok (.aload_n 1, 1) := by decide +kernel
theorem dX5_tactic_9 : decode cX5_tactic 9 = .ok (.getfield 140, 3) := by decide +kernel
theorem dX5_tactic_12 : decode cX5_tactic 12 = .ok (.iconst 0, 1) := by decide +kernel
theorem dX5_tactic_13 : decode cX5_tactic 13 = .ok (.aaload, 1) := by decide +kernel
theorem dX5_tactic_14 : decode cX5_tactic 14 = .ok (.goto 4, 3) := by decide +kernel
theorem dX5_tactic_17 : decode cX5_tactic 17 = .ok (.aconst_null, 1) := by decide +kernel
theorem dX5_tactic_18 : decode cX5_tactic 18 = .ok (.astore_n 2, 1) := by decide +kernel
theorem dX5_tactic_19 : decode cX5_tactic 19 = .ok (.aload_n 0, 1) := by decide +kernel
theorem dX5_tactic_20 : decode cX5_tactic 20 = .ok (.aload_n 1, 1) := by decide +kernel
theorem dX5_tactic_21 : decode cX5_tactic 21 = .ok (.aload_n 2, 1) := by decide +kernel
theorem dX5_tactic_22 : decode cX5_tactic 22 = .ok (.invokevirtual 146, 3) := by decide +kernel
theorem dX5_tactic_25 : decode cX5_tactic 25 = .ok (.istore_n 3, 1) := by decide +kernel
theorem dX5_tactic_26 : decode cX5_tactic 26 = .ok (.iload_n 3, 1) := by decide +kernel
theorem dX5_tactic_27 : decode cX5_tactic 27 = .ok (.ifCond .le 5, 3) := by decide +kernel
theorem dX5_tactic_30 : decode cX5_tactic 30 = .ok (.iload_n 3, 1) := by decide +kernel
theorem dX5_tactic_31 : decode cX5_tactic 31 = .ok (.ireturn, 1) := by decide +kernel
theorem dX5_tactic_32 : decode cX5_tactic 32 = .ok (.aload_n 2, 1) := by decide +kernel
theorem dX5_tactic_33 : decode cX5_tactic 33 = .ok (.ifnonnull 6, 3) := by decide +kernel
theorem dX5_tactic_36 : decode cX5_tactic 36 = .ok (.bipush 8, 2) := by decide +kernel
theorem dX5_tactic_38 : decode cX5_tactic 38 = .ok (.ireturn, 1) := by decide +kernel
theorem dX5_tactic_39 : decode cX5_tactic 39 = .ok (.aload_n 0, 1) := by decide +kernel
theorem dX5_tactic_40 : decode cX5_tactic 40 = .ok (.iconst 0, 1) := by decide +kernel
theorem dX5_tactic_41 : decode cX5_tactic 41 = .ok (.putfield 150, 3) := by decide +kernel
theorem dX5_tactic_44 : decode cX5_tactic 44 = .ok (.aload_n 0, 1) := by decide +kernel
theorem dX5_tactic_45 : decode cX5_tactic 45 = .ok (.aload_n 2, 1) := by decide +kernel
theorem dX5_tactic_46 : decode cX5_tactic 46 = .ok (.aload_n 1, 1) := by decide +kernel
theorem dX5_tactic_47 : decode cX5_tactic 47 = .ok (.aload_n 2, 1) := by decide +kernel
theorem dX5_tactic_48 : decode cX5_tactic 48 = .ok (.aload_n 0, 1) := by decide +kernel
theorem dX5_tactic_49 : decode cX5_tactic 49 = .ok (.getfield 23, 3) := by decide +kernel
theorem dX5_tactic_52 : decode cX5_tactic 52 = .ok (.getfield 93, 3) := by decide +kernel
theorem dX5_tactic_55 : decode cX5_tactic 55 = .ok (.iconst 0, 1) := by decide +kernel
theorem dX5_tactic_56 : decode cX5_tactic 56 = .ok (.iaload, 1) := by decide +kernel
theorem dX5_tactic_57 : decode cX5_tactic 57 = .ok (.invokestatic 153, 3) := by decide +kernel
theorem dX5_tactic_60 : decode cX5_tactic 60 = .ok (.invokevirtual 157, 3) := by decide +kernel
theorem dX5_tactic_63 : decode cX5_tactic 63 = .ok (.istore_n 3, 1) := by decide +kernel
theorem dX5_tactic_64 : decode cX5_tactic 64 = .ok (.iload_n 3, 1) := by decide +kernel
theorem dX5_tactic_65 : decode cX5_tactic 65 = .ok (.ifCond .le 7, 3) := by decide +kernel
theorem dX5_tactic_68 : decode cX5_tactic 68 = .ok (.iload_n 3, 1) := by decide +kernel
theorem dX5_tactic_69 : decode cX5_tactic 69 = .ok (.goto 8, 3) := by decide +kernel
theorem dX5_tactic_72 : decode cX5_tactic 72 = .ok (.aload_n 0, 1) := by decide +kernel
theorem dX5_tactic_73 : decode cX5_tactic 73 = .ok (.aload_n 1, 1) := by decide +kernel
theorem dX5_tactic_74 : decode cX5_tactic 74 = .ok (.invokevirtual 161, 3) := by decide +kernel
theorem dX5_tactic_77 : decode cX5_tactic 77 = .ok (.ireturn, 1) := by decide +kernel
theorem dX5_nameFault_0 : decode cX5_nameFault 0 = .ok (.aload_n 0, 1) := by decide +kernel
theorem dX5_nameFault_1 : decode cX5_nameFault 1 = .ok (.getfield 23, 3) := by decide +kernel
theorem dX5_nameFault_4 : decode cX5_nameFault 4 = .ok (.getfield 93, 3) := by decide +kernel
theorem dX5_nameFault_7 : decode cX5_nameFault 7 = .ok (.iconst 0, 1) := by decide +kernel
theorem dX5_nameFault_8 : decode cX5_nameFault 8 = .ok (.iaload, 1) := by decide +kernel
theorem dX5_nameFault_9 : decode cX5_nameFault 9 = .ok (.istore_n 3, 1) := by decide +kernel
theorem dX5_nameFault_10 : decode cX5_nameFault 10 = .ok (.aload_n 0, 1) := by decide +kernel
theorem dX5_nameFault_11 : decode cX5_nameFault 11 = .ok (.getfield 23, 3) := by decide +kernel
theorem dX5_nameFault_14 : decode cX5_nameFault 14 = .ok (.getfield 93, 3) := by decide +kernel
theorem dX5_nameFault_17 : decode cX5_nameFault 17 = .ok (.iconst 1, 1) := by decide +kernel
theorem dX5_nameFault_18 : decode cX5_nameFault 18 = .ok (.iaload, 1) := by decide +kernel
theorem dX5_nameFault_19 : decode cX5_nameFault 19 = .ok (.istore 4, 2) := by decide +kernel
theorem dX5_nameFault_21 : decode cX5_nameFault 21 = .ok (.aload_n 0, 1) := by decide +kernel
theorem dX5_nameFault_22 : decode cX5_nameFault 22 = .ok (.getfield 23, 3) := by decide +kernel
theorem dX5_nameFault_25 : decode cX5_nameFault 25 = .ok (.getfield 74, 3) := by decide +kernel
theorem dX5_nameFault_28 : decode cX5_nameFault 28 = .ok (.tableswitch 255 9 21 #[68, 84, 84, 255, 255, 255, 99, 84, 176, 191, 255, 84, 228], 68) := by decide +kernel
theorem dX5_nameFault_96 : decode cX5_nameFault 96 = .ok (.aload_n 1, 1) := by decide +kernel
theorem dX5_nameFault_97 : decode cX5_nameFault 97 = .ok (.aload_n 2, 1) := by decide +kernel
theorem dX5_nameFault_98 : decode cX5_nameFault 98 = .ok (.iload_n 3, 1) := by decide +kernel
theorem dX5_nameFault_99 : decode cX5_nameFault 99 = .ok (.invokestatic 96, 3) := by decide +kernel
theorem dX5_nameFault_102 : decode cX5_nameFault 102 = .ok (.ifCond .eq 8, 3) := by decide +kernel
theorem dX5_nameFault_105 : decode cX5_nameFault 105 = .ok (.bipush 6, 2) := by decide +kernel
theorem dX5_nameFault_107 : decode cX5_nameFault 107 = .ok (.goto 4, 3) := by decide +kernel
theorem dX5_nameFault_110 : decode cX5_nameFault 110 = .ok (.iconst 0, 1) := by decide +kernel
theorem dX5_nameFault_111 : decode cX5_nameFault 111 = .ok (.ireturn, 1) := by decide +kernel
theorem dX5_nameFault_112 : decode cX5_nameFault 112 = .ok (.aload_n 1, 1) := by decide +kernel
theorem dX5_nameFault_113 : decode cX5_nameFault 113 = .ok (.aload_n 2, 1) := by decide +kernel
theorem dX5_nameFault_114 : decode cX5_nameFault 114 = .ok (.iload_n 3, 1) := by decide +kernel
theorem dX5_nameFault_115 : decode cX5_nameFault 115 = .ok (.invokestatic 153, 3) := by decide +kernel
theorem dX5_nameFault_118 : decode cX5_nameFault 118 = .ok (.ifnonnull 7, 3) := by decide +kernel
theorem dX5_nameFault_121 : decode cX5_nameFault 121 = .ok (.iconst 5, 1) := by decide +kernel
theorem dX5_nameFault_122 : decode cX5_nameFault 122 = .ok (.goto 4, 3) := by decide +kernel
theorem dX5_nameFault_125 : decode cX5_nameFault 125 = .ok (.iconst 0, 1) := by decide +kernel
theorem dX5_nameFault_126 : decode cX5_nameFault 126 = .ok (.ireturn, 1) := by decide +kernel
theorem dX5_nameFault_127 : decode cX5_nameFault 127 = .ok (.aload_n 2, 1) := by decide +kernel
theorem dX5_nameFault_128 : decode cX5_nameFault 128 = .ok (.ifnull 14, 3) := by decide +kernel
theorem dX5_nameFault_131 : decode cX5_nameFault 131 = .ok (.aload_n 2, 1) := by decide +kernel
theorem dX5_nameFault_132 : decode cX5_nameFault 132 = .ok (.getfield 164, 3) := by decide +kernel
theorem dX5_nameFault_135 : decode cX5_nameFault 135 = .ok (.iload_n 3, 1) := by decide +kernel
theorem dX5_nameFault_136 : decode cX5_nameFault 136 = .ok (.invokestatic 166, 3) := by decide +kernel
theorem dX5_nameFault_139 : decode cX5_nameFault 139 = .ok (.ifCond .ge 5, 3) := by decide +kernel
theorem dX5_nameFault_142 : decode cX5_nameFault 142 = .ok (.iconst 5, 1) := by decide +kernel
theorem dX5_nameFault_143 : decode cX5_nameFault 143 = .ok (.ireturn, 1) := by decide +kernel
theorem dX5_nameFault_144 : decode cX5_nameFault 144 = .ok (.aload_n 1, 1) := by decide +kernel
theorem dX5_nameFault_145 : decode cX5_nameFault 145 = .ok (.aload_n 2, 1) := by decide +kernel
theorem dX5_nameFault_146 : decode cX5_nameFault 146 = .ok (.iload 4, 2) := by decide +kernel
theorem dX5_nameFault_148 : decode cX5_nameFault 148 = .ok (.invokestatic 96, 3) := by decide +kernel
theorem dX5_nameFault_151 : decode cX5_nameFault 151 = .ok (.ifCond .ne 20, 3) := by decide +kernel
theorem dX5_nameFault_154 : decode cX5_nameFault 154 = .ok (.aload_n 1, 1) := by decide +kernel
theorem dX5_nameFault_155 : decode cX5_nameFault 155 = .ok (.aload_n 2, 1) := by decide +kernel
theorem dX5_nameFault_156 : decode cX5_nameFault 156 = .ok (.aload_n 0, 1) := by decide +kernel
theorem dX5_nameFault_157 : decode cX5_nameFault 157 = .ok (.getfield 23, 3) := by decide +kernel
theorem dX5_nameFault_160 : decode cX5_nameFault 160 = .ok (.getfield 93, 3) := by decide +kernel
theorem dX5_nameFault_163 : decode cX5_nameFault 163 = .ok (.iconst 2, 1) := by decide +kernel
theorem dX5_nameFault_164 : decode cX5_nameFault 164 = .ok (.iaload, 1) := by decide +kernel
theorem dX5_nameFault_165 : decode cX5_nameFault 165 = .ok (.invokestatic 96, 3) := by decide +kernel
theorem dX5_nameFault_168 : decode cX5_nameFault 168 = .ok (.ifCond .eq 7, 3) := by decide +kernel
theorem dX5_nameFault_171 : decode cX5_nameFault 171 = .ok (.iconst 1, 1) := by decide +kernel
theorem dX5_nameFault_172 : decode cX5_nameFault 172 = .ok (.goto 4, 3) := by decide +kernel
theorem dX5_nameFault_175 : decode cX5_nameFault 175 = .ok (.iconst 0, 1) := by decide +kernel
theorem dX5_nameFault_176 : decode cX5_nameFault 176 = .ok (.istore 5, 2) := by decide +kernel
theorem dX5_nameFault_178 : decode cX5_nameFault 178 = .ok (.iload 5, 2) := by decide +kernel
theorem dX5_nameFault_180 : decode cX5_nameFault 180 = .ok (.ifCond .ne 17, 3) := by decide +kernel
theorem dX5_nameFault_183 : decode cX5_nameFault 183 = .ok (.iload 4, 2) := by decide +kernel
theorem dX5_nameFault_185 : decode cX5_nameFault 185 = .ok (.aload_n 0, 1) := by decide +kernel
theorem dX5_nameFault_186 : decode cX5_nameFault 186 = .ok (.getfield 23, 3) := by decide +kernel
theorem dX5_nameFault_189 : decode cX5_nameFault 189 = .ok (.getfield 93, 3) := by decide +kernel
theorem dX5_nameFault_192 : decode cX5_nameFault 192 = .ok (.iconst 2, 1) := by decide +kernel
theorem dX5_nameFault_193 : decode cX5_nameFault 193 = .ok (.iaload, 1) := by decide +kernel
theorem dX5_nameFault_194 : decode cX5_nameFault 194 = .ok (.if_icmp .ne 8, 3) := by decide +kernel
theorem dX5_nameFault_197 : decode cX5_nameFault 197 = .ok (.bipush 6, 2) := by decide +kernel
theorem dX5_nameFault_199 : decode cX5_nameFault 199 = .ok (.goto 4, 3) := by decide +kernel
theorem dX5_nameFault_202 : decode cX5_nameFault 202 = .ok (.iconst 0, 1) := by decide +kernel
theorem dX5_nameFault_203 : decode cX5_nameFault 203 = .ok (.ireturn, 1) := by decide +kernel
theorem dX5_nameFault_204 : decode cX5_nameFault 204 = .ok (.aload_n 0, 1) := by decide +kernel
theorem dX5_nameFault_205 : decode cX5_nameFault 205 = .ok (.aload_n 1, 1) := by decide +kernel
theorem dX5_nameFault_206 : decode cX5_nameFault 206 = .ok (.aload_n 2, 1) := by decide +kernel
theorem dX5_nameFault_207 : decode cX5_nameFault 207 = .ok (.invokevirtual 110, 3) := by decide +kernel
theorem dX5_nameFault_210 : decode cX5_nameFault 210 = .ok (.ifCond .eq 7, 3) := by decide +kernel
theorem dX5_nameFault_213 : decode cX5_nameFault 213 = .ok (.iconst 0, 1) := by decide +kernel
theorem dX5_nameFault_214 : decode cX5_nameFault 214 = .ok (.goto 4, 3) := by decide +kernel
theorem dX5_nameFault_217 : decode cX5_nameFault 217 = .ok (.iconst 5, 1) := by decide +kernel
theorem dX5_nameFault_218 : decode cX5_nameFault 218 = .ok (.ireturn, 1) := by decide +kernel
theorem dX5_nameFault_219 : decode cX5_nameFault 219 = .ok (.aload_n 1, 1) := by decide +kernel
theorem dX5_nameFault_220 : decode cX5_nameFault 220 = .ok (.aload_n 2, 1) := by decide +kernel
theorem dX5_nameFault_221 : decode cX5_nameFault 221 = .ok (.iload_n 3, 1) := by decide +kernel
theorem dX5_nameFault_222 : decode cX5_nameFault 222 = .ok (.invokestatic 153, 3) := by decide +kernel
theorem dX5_nameFault_225 : decode cX5_nameFault 225 = .ok (.ifnull 12, 3) := by decide +kernel
theorem dX5_nameFault_228 : decode cX5_nameFault 228 = .ok (.aload_n 0, 1) := by decide +kernel
theorem dX5_nameFault_229 : decode cX5_nameFault 229 = .ok (.aload_n 1, 1) := by decide +kernel
theorem dX5_nameFault_230 : decode cX5_nameFault 230 = .ok (.aload_n 2, 1) := by decide +kernel
theorem dX5_nameFault_231 : decode cX5_nameFault 231 = .ok (.invokevirtual 110, 3) := by decide +kernel
theorem dX5_nameFault_234 : decode cX5_nameFault 234 = .ok (.ifCond .ne 5, 3) := by decide +kernel
theorem dX5_nameFault_237 : decode cX5_nameFault 237 = .ok (.iconst 5, 1) := by decide +kernel
theorem dX5_nameFault_238 : decode cX5_nameFault 238 = .ok (.ireturn, 1) := by decide +kernel
theorem dX5_nameFault_239 : decode cX5_nameFault 239 = .ok (.aload_n 1, 1) := by decide +kernel
theorem dX5_nameFault_240 : decode cX5_nameFault 240 = .ok (.aload_n 2, 1) := by decide +kernel
theorem dX5_nameFault_241 : decode cX5_nameFault 241 = .ok (.iload 4, 2) := by decide +kernel
theorem dX5_nameFault_243 : decode cX5_nameFault 243 = .ok (.invokestatic 96, 3) := by decide +kernel
theorem dX5_nameFault_246 : decode cX5_nameFault 246 = .ok (.ifCond .eq 8, 3) := by decide +kernel
theorem dX5_nameFault_249 : decode cX5_nameFault 249 = .ok (.bipush 6, 2) := by decide +kernel
theorem dX5_nameFault_251 : decode cX5_nameFault 251 = .ok (.goto 4, 3) := by decide +kernel
theorem dX5_nameFault_254 : decode cX5_nameFault 254 = .ok (.iconst 0, 1) := by decide +kernel
theorem dX5_nameFault_255 : decode cX5_nameFault 255 = .ok (.ireturn, 1) := by decide +kernel
theorem dX5_nameFault_256 : decode cX5_nameFault 256 = .ok (.aload_n 1, 1) := by decide +kernel
theorem dX5_nameFault_257 : decode cX5_nameFault 257 = .ok (.aload_n 2, 1) := by decide +kernel
theorem dX5_nameFault_258 : decode cX5_nameFault 258 = .ok (.iload_n 3, 1) := by decide +kernel
theorem dX5_nameFault_259 : decode cX5_nameFault 259 = .ok (.invokestatic 96, 3) := by decide +kernel
theorem dX5_nameFault_262 : decode cX5_nameFault 262 = .ok (.ifCond .eq 6, 3) := by decide +kernel
theorem dX5_nameFault_265 : decode cX5_nameFault 265 = .ok (.bipush 6, 2) := by decide +kernel
theorem dX5_nameFault_267 : decode cX5_nameFault 267 = .ok (.ireturn, 1) := by decide +kernel
theorem dX5_nameFault_268 : decode cX5_nameFault 268 = .ok (.aload_n 0, 1) := by decide +kernel
theorem dX5_nameFault_269 : decode cX5_nameFault 269 = .ok (.aload_n 1, 1) := by decide +kernel
theorem dX5_nameFault_270 : decode cX5_nameFault 270 = .ok (.aload_n 2, 1) := by decide +kernel
theorem dX5_nameFault_271 : decode cX5_nameFault 271 = .ok (.invokevirtual 110, 3) := by decide +kernel
theorem dX5_nameFault_274 : decode cX5_nameFault 274 = .ok (.ifCond .eq 7, 3) := by decide +kernel
theorem dX5_nameFault_277 : decode cX5_nameFault 277 = .ok (.iconst 0, 1) := by decide +kernel
theorem dX5_nameFault_278 : decode cX5_nameFault 278 = .ok (.goto 4, 3) := by decide +kernel
theorem dX5_nameFault_281 : decode cX5_nameFault 281 = .ok (.iconst 5, 1) := by decide +kernel
theorem dX5_nameFault_282 : decode cX5_nameFault 282 = .ok (.ireturn, 1) := by decide +kernel
theorem dX5_nameFault_283 : decode cX5_nameFault 283 = .ok (.iconst 0, 1) := by decide +kernel
theorem dX5_nameFault_284 : decode cX5_nameFault 284 = .ok (.ireturn, 1) := by decide +kernel
theorem dX5_isResolved_0 : decode cX5_isResolved 0 = .ok (.aload_n 0, 1) := by decide +kernel
theorem dX5_isResolved_1 : decode cX5_isResolved 1 = .ok (.getfield 23, 3) := by decide +kernel
theorem dX5_isResolved_4 : decode cX5_isResolved 4 = .ok (.getfield 121, 3) := by decide +kernel
theorem dX5_isResolved_7 : decode cX5_isResolved 7 = .ok (.astore_n 3, 1) := by decide +kernel
theorem dX5_isResolved_8 : decode cX5_isResolved 8 = .ok (.iconst 0, 1) := by decide +kernel
theorem dX5_isResolved_9 : decode cX5_isResolved 9 = .ok (.istore 4, 2) := by decide +kernel
theorem dX5_isResolved_11 : decode cX5_isResolved 11 = .ok (.iconst 0, 1) := by decide +kernel
theorem dX5_isResolved_12 : decode cX5_isResolved 12 = .ok (.istore 5, 2) := by decide +kernel
theorem dX5_isResolved_14 : decode cX5_isResolved 14 = .ok (.iload 5, 2) := by decide +kernel
theorem dX5_isResolved_16 : decode cX5_isResolved 16 = .ok (.aload_n 0, 1) := by decide +kernel
theorem dX5_isResolved_17 : decode cX5_isResolved 17 = .ok (.getfield 23, 3) := by decide +kernel
theorem dX5_isResolved_20 : decode cX5_isResolved 20 = .ok (.getfield 114, 3) := by decide +kernel
theorem dX5_isResolved_23 : decode cX5_isResolved 23 = .ok (.if_icmp .ge 170, 3) := by decide +kernel
theorem dX5_isResolved_26 : decode cX5_isResolved 26 = .ok (.iload 5, 2) := by decide +kernel
theorem dX5_isResolved_28 : decode cX5_isResolved 28 = .ok (.aload_n 3, 1) := by decide +kernel
theorem dX5_isResolved_29 : decode cX5_isResolved 29 = .ok (.arraylength, 1) := by decide +kernel
theorem dX5_isResolved_30 : decode cX5_isResolved 30 = .ok (.if_icmp .ge 163, 3) := by decide +kernel
theorem dX5_isResolved_33 : decode cX5_isResolved 33 = .ok (.iload 4, 2) := by decide +kernel
theorem dX5_isResolved_35 : decode cX5_isResolved 35 = .ok (.ifCond .le 23, 3) := by decide +kernel
theorem dX5_isResolved_38 : decode cX5_isResolved 38 = .ok (.aload_n 0, 1) := by decide +kernel
theorem dX5_isResolved_39 : decode cX5_isResolved 39 = .ok (.getfield 38, 3) := by decide +kernel
theorem dX5_isResolved_42 : decode cX5_isResolved 42 = .ok (.iload 4, 2) := by decide +kernel
theorem dX5_isResolved_44 : decode cX5_isResolved 44 = .ok (.iconst 1, 1) := by decide +kernel
theorem dX5_isResolved_45 : decode cX5_isResolved 45 = .ok (.isub, 1) := by decide +kernel
theorem dX5_isResolved_46 : decode cX5_isResolved 46 = .ok (.iaload, 1) := by decide +kernel
theorem dX5_isResolved_47 : decode cX5_isResolved 47 = .ok (.iload 5, 2) := by decide +kernel
theorem dX5_isResolved_49 : decode cX5_isResolved 49 = .ok (.if_icmp .gt 9, 3) := by decide +kernel
theorem dX5_isResolved_52 : decode cX5_isResolved 52 = .ok (.iinc 4 (-1), 3) := by decide +kernel
theorem dX5_isResolved_55 : decode cX5_isResolved 55 = .ok (.goto (-22), 3) := by decide +kernel
theorem dX5_isResolved_58 : decode cX5_isResolved 58 = .ok (.aload_n 3, 1) := by decide +kernel
theorem dX5_isResolved_59 : decode cX5_isResolved 59 = .ok (.iload 5, 2) := by decide +kernel
theorem dX5_isResolved_61 : decode cX5_isResolved 61 = .ok (.iaload, 1) := by decide +kernel
theorem dX5_isResolved_62 : decode cX5_isResolved 62 = .ok (.bipush 15, 2) := by decide +kernel
theorem dX5_isResolved_64 : decode cX5_isResolved 64 = .ok (.iand, 1) := by decide +kernel
theorem dX5_isResolved_65 : decode cX5_isResolved 65 = .ok (.istore 6, 2) := by decide +kernel
theorem dX5_isResolved_67 : decode cX5_isResolved 67 = .ok (.iload 6, 2) := by decide +kernel
theorem dX5_isResolved_69 : decode cX5_isResolved 69 = .ok (.iconst 5, 1) := by decide +kernel
theorem dX5_isResolved_70 : decode cX5_isResolved 70 = .ok (.if_icmp .eq 10, 3) := by decide +kernel
theorem dX5_isResolved_73 : decode cX5_isResolved 73 = .ok (.iload 6, 2) := by decide +kernel
theorem dX5_isResolved_75 : decode cX5_isResolved 75 = .ok (.bipush 6, 2) := by decide +kernel
theorem dX5_isResolved_77 : decode cX5_isResolved 77 = .ok (.if_icmp .ne 55, 3) := by decide +kernel
theorem dX5_isResolved_80 : decode cX5_isResolved 80 = .ok (.iload 4, 2) := by decide +kernel
theorem dX5_isResolved_82 : decode cX5_isResolved 82 = .ok (.aload_n 0, 1) := by decide +kernel
theorem dX5_isResolved_83 : decode cX5_isResolved 83 = .ok (.getfield 34, 3) := by decide +kernel
theorem dX5_isResolved_86 : decode cX5_isResolved 86 = .ok (.arraylength, 1) := by decide +kernel
theorem dX5_isResolved_87 : decode cX5_isResolved 87 = .ok (.if_icmp .lt 5, 3) := by decide +kernel
theorem dX5_isResolved_90 : decode cX5_isResolved 90 = .ok (.iconst 0, 1) := by decide +kernel
theorem dX5_isResolved_91 : decode cX5_isResolved 91 = .ok (.ireturn, 1) := by decide +kernel
theorem dX5_isResolved_92 : decode cX5_isResolved 92 = .ok (.aload_n 0, 1) := by decide +kernel
theorem dX5_isResolved_93 : decode cX5_isResolved 93 = .ok (.getfield 34, 3) := by decide +kernel
theorem dX5_isResolved_96 : decode cX5_isResolved 96 = .ok (.iload 4, 2) := by decide +kernel
theorem dX5_isResolved_98 : decode cX5_isResolved 98 = .ok (.aload_n 3, 1) := by decide +kernel
theorem dX5_isResolved_99 : decode cX5_isResolved 99 = .ok (.iload 5, 2) := by decide +kernel
theorem dX5_isResolved_101 : decode cX5_isResolved 101 = .ok (.iaload, 1) := by decide +kernel
theorem dX5_isResolved_102 : decode cX5_isResolved 102 = .ok (.bipush 15, 2) := by decide +kernel
theorem dX5_isResolved_104 : decode cX5_isResolved 104 = .ok (.ishr, 1) := by decide +kernel
theorem dX5_isResolved_105 : decode cX5_isResolved 105 = .ok (.iastore, 1) := by decide +kernel
theorem dX5_isResolved_106 : decode cX5_isResolved 106 = .ok (.aload_n 0, 1) := by decide +kernel
theorem dX5_isResolved_107 : decode cX5_isResolved 107 = .ok (.getfield 38, 3) := by decide +kernel
theorem dX5_isResolved_110 : decode cX5_isResolved 110 = .ok (.iload 4, 2) := by decide +kernel
theorem dX5_isResolved_112 : decode cX5_isResolved 112 = .ok (.aload_n 3, 1) := by decide +kernel
theorem dX5_isResolved_113 : decode cX5_isResolved 113 = .ok (.iload 5, 2) := by decide +kernel
theorem dX5_isResolved_115 : decode cX5_isResolved 115 = .ok (.aload_n 0, 1) := by decide +kernel
theorem dX5_isResolved_116 : decode cX5_isResolved 116 = .ok (.getfield 23, 3) := by decide +kernel
theorem dX5_isResolved_119 : decode cX5_isResolved 119 = .ok (.getfield 114, 3) := by decide +kernel
theorem dX5_isResolved_122 : decode cX5_isResolved 122 = .ok (.invokestatic 183, 3) := by decide +kernel
theorem dX5_isResolved_125 : decode cX5_isResolved 125 = .ok (.iastore, 1) := by decide +kernel
theorem dX5_isResolved_126 : decode cX5_isResolved 126 = .ok (.iinc 4 1, 3) := by decide +kernel
theorem dX5_isResolved_129 : decode cX5_isResolved 129 = .ok (.goto 58, 3) := by decide +kernel
theorem dX5_isResolved_132 : decode cX5_isResolved 132 = .ok (.iload 6, 2) := by decide +kernel
theorem dX5_isResolved_134 : decode cX5_isResolved 134 = .ok (.bipush 7, 2) := by decide +kernel
theorem dX5_isResolved_136 : decode cX5_isResolved 136 = .ok (.if_icmp .ne 19, 3) := by decide +kernel
theorem dX5_isResolved_139 : decode cX5_isResolved 139 = .ok (.aload_n 1, 1) := by decide +kernel
theorem dX5_isResolved_140 : decode cX5_isResolved 140 = .ok (.getfield 100, 3) := by decide +kernel
theorem dX5_isResolved_143 : decode cX5_isResolved 143 = .ok (.aload_n 3, 1) := by decide +kernel
theorem dX5_isResolved_144 : decode cX5_isResolved 144 = .ok (.iload 5, 2) := by decide +kernel
theorem dX5_isResolved_146 : decode cX5_isResolved 146 = .ok (.iaload, 1) := by decide +kernel
theorem dX5_isResolved_147 : decode cX5_isResolved 147 = .ok (.invokestatic 166, 3) := by decide +kernel
theorem dX5_isResolved_150 : decode cX5_isResolved 150 = .ok (.ifCond .ge 5, 3) := by decide +kernel
theorem dX5_isResolved_153 : decode cX5_isResolved 153 = .ok (.iconst 0, 1) := by decide +kernel
theorem dX5_isResolved_154 : decode cX5_isResolved 154 = .ok (.ireturn, 1) := by decide +kernel
theorem dX5_isResolved_155 : decode cX5_isResolved 155 = .ok (.iload 6, 2) := by decide +kernel
theorem dX5_isResolved_157 : decode cX5_isResolved 157 = .ok (.bipush 8, 2) := by decide +kernel
theorem dX5_isResolved_159 : decode cX5_isResolved 159 = .ok (.if_icmp .ne 28, 3) := by decide +kernel
theorem dX5_isResolved_162 : decode cX5_isResolved 162 = .ok (.aload_n 3, 1) := by decide +kernel
theorem dX5_isResolved_163 : decode cX5_isResolved 163 = .ok (.iload 5, 2) := by decide +kernel
theorem dX5_isResolved_165 : decode cX5_isResolved 165 = .ok (.aload_n 0, 1) := by decide +kernel
theorem dX5_isResolved_166 : decode cX5_isResolved 166 = .ok (.aload_n 1, 1) := by decide +kernel
theorem dX5_isResolved_167 : decode cX5_isResolved 167 = .ok (.aload_n 2, 1) := by decide +kernel
theorem dX5_isResolved_168 : decode cX5_isResolved 168 = .ok (.aload_n 3, 1) := by decide +kernel
theorem dX5_isResolved_169 : decode cX5_isResolved 169 = .ok (.iload 5, 2) := by decide +kernel
theorem dX5_isResolved_171 : decode cX5_isResolved 171 = .ok (.iaload, 1) := by decide +kernel
theorem dX5_isResolved_172 : decode cX5_isResolved 172 = .ok (.iload 4, 2) := by decide +kernel
theorem dX5_isResolved_174 : decode cX5_isResolved 174 = .ok (.invokevirtual 186, 3) := by decide +kernel
theorem dX5_isResolved_177 : decode cX5_isResolved 177 = .ok (.iastore, 1) := by decide +kernel
theorem dX5_isResolved_178 : decode cX5_isResolved 178 = .ok (.aload_n 3, 1) := by decide +kernel
theorem dX5_isResolved_179 : decode cX5_isResolved 179 = .ok (.iload 5, 2) := by decide +kernel
theorem dX5_isResolved_181 : decode cX5_isResolved 181 = .ok (.iaload, 1) := by decide +kernel
theorem dX5_isResolved_182 : decode cX5_isResolved 182 = .ok (.ifCond .ge 5, 3) := by decide +kernel
theorem dX5_isResolved_185 : decode cX5_isResolved 185 = .ok (.iconst 0, 1) := by decide +kernel
theorem dX5_isResolved_186 : decode cX5_isResolved 186 = .ok (.ireturn, 1) := by decide +kernel
theorem dX5_isResolved_187 : decode cX5_isResolved 187 = .ok (.iinc 5 1, 3) := by decide +kernel
theorem dX5_isResolved_190 : decode cX5_isResolved 190 = .ok (.goto (-176), 3) := by decide +kernel
theorem dX5_isResolved_193 : decode cX5_isResolved 193 = .ok (.iconst 1, 1) := by decide +kernel
theorem dX5_isResolved_194 : decode cX5_isResolved 194 = .ok (.ireturn, 1) := by decide +kernel
theorem dX5_resolved_0 : decode cX5_resolved 0 = .ok (.iload_n 3, 1) := by decide +kernel
theorem dX5_resolved_1 : decode cX5_resolved 1 = .ok (.bipush 15, 2) := by decide +kernel
theorem dX5_resolved_3 : decode cX5_resolved 3 = .ok (.ishr, 1) := by decide +kernel
theorem dX5_resolved_4 : decode cX5_resolved 4 = .ok (.istore 5, 2) := by decide +kernel
theorem dX5_resolved_6 : decode cX5_resolved 6 = .ok (.iload_n 3, 1) := by decide +kernel
theorem dX5_resolved_7 : decode cX5_resolved 7 = .ok (.iconst 4, 1) := by decide +kernel
theorem dX5_resolved_8 : decode cX5_resolved 8 = .ok (.ishr, 1) := by decide +kernel
theorem dX5_resolved_9 : decode cX5_resolved 9 = .ok (.sipush 2047, 3) := by decide +kernel
theorem dX5_resolved_12 : decode cX5_resolved 12 = .ok (.iand, 1) := by decide +kernel
theorem dX5_resolved_13 : decode cX5_resolved 13 = .ok (.ifCond .ne 7, 3) := by decide +kernel
theorem dX5_resolved_16 : decode cX5_resolved 16 = .ok (.iconst 1, 1) := by decide +kernel
theorem dX5_resolved_17 : decode cX5_resolved 17 = .ok (.goto 4, 3) := by decide +kernel
theorem dX5_resolved_20 : decode cX5_resolved 20 = .ok (.iconst 0, 1) := by decide +kernel
theorem dX5_resolved_21 : decode cX5_resolved 21 = .ok (.istore 6, 2) := by decide +kernel
theorem dX5_resolved_23 : decode cX5_resolved 23 = .ok (.iload 4, 2) := by decide +kernel
theorem dX5_resolved_25 : decode cX5_resolved 25 = .ok (.iconst 1, 1) := by decide +kernel
theorem dX5_resolved_26 : decode cX5_resolved 26 = .ok (.isub, 1) := by decide +kernel
theorem dX5_resolved_27 : decode cX5_resolved 27 = .ok (.istore 7, 2) := by decide +kernel
theorem dX5_resolved_29 : decode cX5_resolved 29 = .ok (.iload 7, 2) := by decide +kernel
theorem dX5_resolved_31 : decode cX5_resolved 31 = .ok (.ifCond .lt 39, 3) := by decide +kernel
theorem dX5_resolved_34 : decode cX5_resolved 34 = .ok (.aload_n 0, 1) := by decide +kernel
theorem dX5_resolved_35 : decode cX5_resolved 35 = .ok (.getfield 34, 3) := by decide +kernel
theorem dX5_resolved_38 : decode cX5_resolved 38 = .ok (.iload 7, 2) := by decide +kernel
theorem dX5_resolved_40 : decode cX5_resolved 40 = .ok (.iaload, 1) := by decide +kernel
theorem dX5_resolved_41 : decode cX5_resolved 41 = .ok (.iload 5, 2) := by decide +kernel
theorem dX5_resolved_43 : decode cX5_resolved 43 = .ok (.if_icmp .ne 21, 3) := by decide +kernel
theorem dX5_resolved_46 : decode cX5_resolved 46 = .ok (.iload 6, 2) := by decide +kernel
theorem dX5_resolved_48 : decode cX5_resolved 48 = .ok (.ifCond .eq 14, 3) := by decide +kernel
theorem dX5_resolved_51 : decode cX5_resolved 51 = .ok (.bipush 10, 2) := by decide +kernel
theorem dX5_resolved_53 : decode cX5_resolved 53 = .ok (.iload 7, 2) := by decide +kernel
theorem dX5_resolved_55 : decode cX5_resolved 55 = .ok (.bipush 15, 2) := by decide +kernel
theorem dX5_resolved_57 : decode cX5_resolved 57 = .ok (.ishl, 1) := by decide +kernel
theorem dX5_resolved_58 : decode cX5_resolved 58 = .ok (.ior, 1) := by decide +kernel
theorem dX5_resolved_59 : decode cX5_resolved 59 = .ok (.goto 4, 3) := by decide +kernel
theorem dX5_resolved_62 : decode cX5_resolved 62 = .ok (.iconst (-1), 1) := by decide +kernel
theorem dX5_resolved_63 : decode cX5_resolved 63 = .ok (.ireturn, 1) := by decide +kernel
theorem dX5_resolved_64 : decode cX5_resolved 64 = .ok (.iinc 7 (-1), 3) := by decide +kernel
theorem dX5_resolved_67 : decode cX5_resolved 67 = .ok (.goto (-38), 3) := by decide +kernel
theorem dX5_resolved_70 : decode cX5_resolved 70 = .ok (.aload_n 2, 1) := by decide +kernel
theorem dX5_resolved_71 : decode cX5_resolved 71 = .ok (.ifnull 33, 3) := by decide +kernel
theorem dX5_resolved_74 : decode cX5_resolved 74 = .ok (.aload_n 2, 1) := by decide +kernel
theorem dX5_resolved_75 : decode cX5_resolved 75 = .ok (.getfield 177, 3) := by decide +kernel
theorem dX5_resolved_78 : decode cX5_resolved 78 = .ok (.iload 5, 2) := by decide +kernel
theorem dX5_resolved_80 : decode cX5_resolved 80 = .ok (.invokestatic 166, 3) := by decide +kernel
theorem dX5_resolved_83 : decode cX5_resolved 83 = .ok (.ifCond .lt 21, 3) := by decide +kernel
theorem dX5_resolved_86 : decode cX5_resolved 86 = .ok (.iload 6, 2) := by decide +kernel
theorem dX5_resolved_88 : decode cX5_resolved 88 = .ok (.ifCond .eq 14, 3) := by decide +kernel
theorem dX5_resolved_91 : decode cX5_resolved 91 = .ok (.bipush 9, 2) := by decide +kernel
theorem dX5_resolved_93 : decode cX5_resolved 93 = .ok (.iload 5, 2) := by decide +kernel
theorem dX5_resolved_95 : decode cX5_resolved 95 = .ok (.bipush 15, 2) := by decide +kernel
theorem dX5_resolved_97 : decode cX5_resolved 97 = .ok (.ishl, 1) := by decide +kernel
theorem dX5_resolved_98 : decode cX5_resolved 98 = .ok (.ior, 1) := by decide +kernel
theorem dX5_resolved_99 : decode cX5_resolved 99 = .ok (.goto 4, 3) := by decide +kernel
theorem dX5_resolved_102 : decode cX5_resolved 102 = .ok (.iconst (-1), 1) := by decide +kernel
theorem dX5_resolved_103 : decode cX5_resolved 103 = .ok (.ireturn, 1) := by decide +kernel
theorem dX5_resolved_104 : decode cX5_resolved 104 = .ok (.aload_n 1, 1) := by decide +kernel
theorem dX5_resolved_105 : decode cX5_resolved 105 = .ok (.getfield 100, 3) := by decide +kernel
theorem dX5_resolved_108 : decode cX5_resolved 108 = .ok (.iload_n 3, 1) := by decide +kernel
theorem dX5_resolved_109 : decode cX5_resolved 109 = .ok (.invokestatic 166, 3) := by decide +kernel
theorem dX5_resolved_112 : decode cX5_resolved 112 = .ok (.ifCond .lt 7, 3) := by decide +kernel
theorem dX5_resolved_115 : decode cX5_resolved 115 = .ok (.iload_n 3, 1) := by decide +kernel
theorem dX5_resolved_116 : decode cX5_resolved 116 = .ok (.goto 4, 3) := by decide +kernel
theorem dX5_resolved_119 : decode cX5_resolved 119 = .ok (.iconst (-1), 1) := by decide +kernel
theorem dX5_resolved_120 : decode cX5_resolved 120 = .ok (.ireturn, 1) := by decide +kernel
theorem dX5_act_0 : decode cX5_act 0 = .ok (.aload_n 1, 1) := by decide +kernel
theorem dX5_act_1 : decode cX5_act 1 = .ok (.getfield 190, 3) := by decide +kernel
theorem dX5_act_4 : decode cX5_act 4 = .ok (.astore_n 3, 1) := by decide +kernel
theorem dX5_act_5 : decode cX5_act 5 = .ok (.aload_n 3, 1) := by decide +kernel
theorem dX5_act_6 : decode cX5_act 6 = .ok (.arraylength, 1) := by decide +kernel
theorem dX5_act_7 : decode cX5_act 7 = .ok (.ifCond .le 12, 3) := by decide +kernel
theorem dX5_act_10 : decode cX5_act 10 = .ok (.aload_n 3, 1) := by decide +kernel
theorem dX5_act_11 : decode cX5_act 11 = .ok (.iconst 0, 1) := by decide +kernel
theorem dX5_act_12 : decode cX5_act 12 = .ok (.iaload, 1) := by decide +kernel
theorem dX5_act_13 : decode cX5_act 13 = .ok (.bipush 15, 2) := by decide +kernel
theorem dX5_act_15 : decode cX5_act 15 = .ok (.iand, 1) := by decide +kernel
theorem dX5_act_16 : decode cX5_act 16 = .ok (.goto 4, 3) := by decide +kernel
theorem dX5_act_19 : decode cX5_act 19 = .ok (.iconst 0, 1) := by decide +kernel
theorem dX5_act_20 : decode cX5_act 20 = .ok (.istore 4, 2) := by decide +kernel
theorem dX5_act_22 : decode cX5_act 22 = .ok (.aload_n 3, 1) := by decide +kernel
theorem dX5_act_23 : decode cX5_act 23 = .ok (.iconst 1, 1) := by decide +kernel
theorem dX5_act_24 : decode cX5_act 24 = .ok (.aload_n 3, 1) := by decide +kernel
theorem dX5_act_25 : decode cX5_act 25 = .ok (.arraylength, 1) := by decide +kernel
theorem dX5_act_26 : decode cX5_act 26 = .ok (.invokestatic 183, 3) := by decide +kernel
theorem dX5_act_29 : decode cX5_act 29 = .ok (.istore 5, 2) := by decide +kernel
theorem dX5_act_31 : decode cX5_act 31 = .ok (.aload_n 0, 1) := by decide +kernel
theorem dX5_act_32 : decode cX5_act 32 = .ok (.getfield 23, 3) := by decide +kernel
theorem dX5_act_35 : decode cX5_act 35 = .ok (.getfield 74, 3) := by decide +kernel
theorem dX5_act_38 : decode cX5_act 38 = .ok (.tableswitch 357 9 20 #[62, 72, 91, 126, 168, 188, 209, 215, 241, 281, 288, 341], 62) := by decide +kernel
theorem dX5_act_100 : decode cX5_act 100 = .ok (.aload_n 0, 1) := by decide +kernel
theorem dX5_act_101 : decode cX5_act 101 = .ok (.aload_n 1, 1) := by decide +kernel
theorem dX5_act_102 : decode cX5_act 102 = .ok (.iload 4, 2) := by decide +kernel
theorem dX5_act_104 : decode cX5_act 104 = .ok (.iload 5, 2) := by decide +kernel
theorem dX5_act_106 : decode cX5_act 106 = .ok (.invokevirtual 193, 3) := by decide +kernel
theorem dX5_act_109 : decode cX5_act 109 = .ok (.ireturn, 1) := by decide +kernel
theorem dX5_act_110 : decode cX5_act 110 = .ok (.aload_n 2, 1) := by decide +kernel
theorem dX5_act_111 : decode cX5_act 111 = .ok (.ifnull 15, 3) := by decide +kernel
theorem dX5_act_114 : decode cX5_act 114 = .ok (.aload_n 2, 1) := by decide +kernel
theorem dX5_act_115 : decode cX5_act 115 = .ok (.aload_n 3, 1) := by decide +kernel
theorem dX5_act_116 : decode cX5_act 116 = .ok (.invokestatic 197, 3) := by decide +kernel
theorem dX5_act_119 : decode cX5_act 119 = .ok (.ifCond .eq 7, 3) := by decide +kernel
theorem dX5_act_122 : decode cX5_act 122 = .ok (.iconst 0, 1) := by decide +kernel
theorem dX5_act_123 : decode cX5_act 123 = .ok (.goto 5, 3) := by decide +kernel
theorem dX5_act_126 : decode cX5_act 126 = .ok (.bipush 8, 2) := by decide +kernel
theorem dX5_act_128 : decode cX5_act 128 = .ok (.ireturn, 1) := by decide +kernel
theorem dX5_act_129 : decode cX5_act 129 = .ok (.aload_n 2, 1) := by decide +kernel
theorem dX5_act_130 : decode cX5_act 130 = .ok (.ifnonnull 7, 3) := by decide +kernel
theorem dX5_act_133 : decode cX5_act 133 = .ok (.iconst (-1), 1) := by decide +kernel
theorem dX5_act_134 : decode cX5_act 134 = .ok (.goto 9, 3) := by decide +kernel
theorem dX5_act_137 : decode cX5_act 137 = .ok (.aload_n 0, 1) := by decide +kernel
theorem dX5_act_138 : decode cX5_act 138 = .ok (.aload_n 2, 1) := by decide +kernel
theorem dX5_act_139 : decode cX5_act 139 = .ok (.aload_n 3, 1) := by decide +kernel
theorem dX5_act_140 : decode cX5_act 140 = .ok (.invokevirtual 201, 3) := by decide +kernel
theorem dX5_act_143 : decode cX5_act 143 = .ok (.istore 6, 2) := by decide +kernel
theorem dX5_act_145 : decode cX5_act 145 = .ok (.iload 6, 2) := by decide +kernel
theorem dX5_act_147 : decode cX5_act 147 = .ok (.ifCond .ge 8, 3) := by decide +kernel
theorem dX5_act_150 : decode cX5_act 150 = .ok (.bipush 8, 2) := by decide +kernel
theorem dX5_act_152 : decode cX5_act 152 = .ok (.goto 11, 3) := by decide +kernel
theorem dX5_act_155 : decode cX5_act 155 = .ok (.aload_n 0, 1) := by decide +kernel
theorem dX5_act_156 : decode cX5_act 156 = .ok (.aload_n 1, 1) := by decide +kernel
theorem dX5_act_157 : decode cX5_act 157 = .ok (.aload_n 2, 1) := by decide +kernel
theorem dX5_act_158 : decode cX5_act 158 = .ok (.iload 6, 2) := by decide +kernel
theorem dX5_act_160 : decode cX5_act 160 = .ok (.invokevirtual 205, 3) := by decide +kernel
theorem dX5_act_163 : decode cX5_act 163 = .ok (.ireturn, 1) := by decide +kernel
theorem dX5_act_164 : decode cX5_act 164 = .ok (.aload_n 0, 1) := by decide +kernel
theorem dX5_act_165 : decode cX5_act 165 = .ok (.aload_n 1, 1) := by decide +kernel
theorem dX5_act_166 : decode cX5_act 166 = .ok (.iload 4, 2) := by decide +kernel
theorem dX5_act_168 : decode cX5_act 168 = .ok (.iconst 2, 1) := by decide +kernel
theorem dX5_act_169 : decode cX5_act 169 = .ok (.if_icmp .ne 7, 3) := by decide +kernel
theorem dX5_act_172 : decode cX5_act 172 = .ok (.iconst 1, 1) := by decide +kernel
theorem dX5_act_173 : decode cX5_act 173 = .ok (.goto 4, 3) := by decide +kernel
theorem dX5_act_176 : decode cX5_act 176 = .ok (.iconst 0, 1) := by decide +kernel
theorem dX5_act_177 : decode cX5_act 177 = .ok (.iconst 1, 1) := by decide +kernel
theorem dX5_act_178 : decode cX5_act 178 = .ok (.iload 5, 2) := by decide +kernel
theorem dX5_act_180 : decode cX5_act 180 = .ok (.invokevirtual 209, 3) := by decide +kernel
theorem dX5_act_183 : decode cX5_act 183 = .ok (.istore 7, 2) := by decide +kernel
theorem dX5_act_185 : decode cX5_act 185 = .ok (.iload 7, 2) := by decide +kernel
theorem dX5_act_187 : decode cX5_act 187 = .ok (.ifCond .le 8, 3) := by decide +kernel
theorem dX5_act_190 : decode cX5_act 190 = .ok (.iload 7, 2) := by decide +kernel
theorem dX5_act_192 : decode cX5_act 192 = .ok (.goto 13, 3) := by decide +kernel
theorem dX5_act_195 : decode cX5_act 195 = .ok (.aload_n 0, 1) := by decide +kernel
theorem dX5_act_196 : decode cX5_act 196 = .ok (.aload_n 1, 1) := by decide +kernel
theorem dX5_act_197 : decode cX5_act 197 = .ok (.iconst 1, 1) := by decide +kernel
theorem dX5_act_198 : decode cX5_act 198 = .ok (.iload 5, 2) := by decide +kernel
theorem dX5_act_200 : decode cX5_act 200 = .ok (.aload_n 3, 1) := by decide +kernel
theorem dX5_act_201 : decode cX5_act 201 = .ok (.arraylength, 1) := by decide +kernel
theorem dX5_act_202 : decode cX5_act 202 = .ok (.invokevirtual 209, 3) := by decide +kernel
theorem dX5_act_205 : decode cX5_act 205 = .ok (.ireturn, 1) := by decide +kernel
theorem dX5_act_206 : decode cX5_act 206 = .ok (.aload_n 0, 1) := by decide +kernel
theorem dX5_act_207 : decode cX5_act 207 = .ok (.aload_n 1, 1) := by decide +kernel
theorem dX5_act_208 : decode cX5_act 208 = .ok (.iload 4, 2) := by decide +kernel
theorem dX5_act_210 : decode cX5_act 210 = .ok (.iconst 3, 1) := by decide +kernel
theorem dX5_act_211 : decode cX5_act 211 = .ok (.if_icmp .ne 7, 3) := by decide +kernel
theorem dX5_act_214 : decode cX5_act 214 = .ok (.iconst 1, 1) := by decide +kernel
theorem dX5_act_215 : decode cX5_act 215 = .ok (.goto 4, 3) := by decide +kernel
theorem dX5_act_218 : decode cX5_act 218 = .ok (.iconst 0, 1) := by decide +kernel
theorem dX5_act_219 : decode cX5_act 219 = .ok (.iconst 1, 1) := by decide +kernel
theorem dX5_act_220 : decode cX5_act 220 = .ok (.iload 5, 2) := by decide +kernel
theorem dX5_act_222 : decode cX5_act 222 = .ok (.invokevirtual 209, 3) := by decide +kernel
theorem dX5_act_225 : decode cX5_act 225 = .ok (.ireturn, 1) := by decide +kernel
theorem dX5_act_226 : decode cX5_act 226 = .ok (.aload_n 0, 1) := by decide +kernel
theorem dX5_act_227 : decode cX5_act 227 = .ok (.aload_n 1, 1) := by decide +kernel
theorem dX5_act_228 : decode cX5_act 228 = .ok (.iload 4, 2) := by decide +kernel
theorem dX5_act_230 : decode cX5_act 230 = .ok (.iconst 3, 1) := by decide +kernel
theorem dX5_act_231 : decode cX5_act 231 = .ok (.if_icmp .ne 7, 3) := by decide +kernel
theorem dX5_act_234 : decode cX5_act 234 = .ok (.iconst 1, 1) := by decide +kernel
theorem dX5_act_235 : decode cX5_act 235 = .ok (.goto 4, 3) := by decide +kernel
theorem dX5_act_238 : decode cX5_act 238 = .ok (.iconst 0, 1) := by decide +kernel
theorem dX5_act_239 : decode cX5_act 239 = .ok (.iload 5, 2) := by decide +kernel
theorem dX5_act_241 : decode cX5_act 241 = .ok (.aload_n 3, 1) := by decide +kernel
theorem dX5_act_242 : decode cX5_act 242 = .ok (.arraylength, 1) := by decide +kernel
theorem dX5_act_243 : decode cX5_act 243 = .ok (.invokevirtual 209, 3) := by decide +kernel
theorem dX5_act_246 : decode cX5_act 246 = .ok (.ireturn, 1) := by decide +kernel
theorem dX5_act_247 : decode cX5_act 247 = .ok (.aload_n 0, 1) := by decide +kernel
theorem dX5_act_248 : decode cX5_act 248 = .ok (.aload_n 1, 1) := by decide +kernel
theorem dX5_act_249 : decode cX5_act 249 = .ok (.invokevirtual 213, 3) := by decide +kernel
theorem dX5_act_252 : decode cX5_act 252 = .ok (.ireturn, 1) := by decide +kernel
theorem dX5_act_253 : decode cX5_act 253 = .ok (.aload_n 2, 1) := by decide +kernel
theorem dX5_act_254 : decode cX5_act 254 = .ok (.ifnull 22, 3) := by decide +kernel
theorem dX5_act_257 : decode cX5_act 257 = .ok (.aload_n 2, 1) := by decide +kernel
theorem dX5_act_258 : decode cX5_act 258 = .ok (.arraylength, 1) := by decide +kernel
theorem dX5_act_259 : decode cX5_act 259 = .ok (.iconst 1, 1) := by decide +kernel
theorem dX5_act_260 : decode cX5_act 260 = .ok (.if_icmp .ne 16, 3) := by decide +kernel
theorem dX5_act_263 : decode cX5_act 263 = .ok (.aload_n 2, 1) := by decide +kernel
theorem dX5_act_264 : decode cX5_act 264 = .ok (.iconst 0, 1) := by decide +kernel
theorem dX5_act_265 : decode cX5_act 265 = .ok (.iaload, 1) := by decide +kernel
theorem dX5_act_266 : decode cX5_act 266 = .ok (.bipush 15, 2) := by decide +kernel
theorem dX5_act_268 : decode cX5_act 268 = .ok (.iand, 1) := by decide +kernel
theorem dX5_act_269 : decode cX5_act 269 = .ok (.ifCond .ne 7, 3) := by decide +kernel
theorem dX5_act_272 : decode cX5_act 272 = .ok (.iconst 0, 1) := by decide +kernel
theorem dX5_act_273 : decode cX5_act 273 = .ok (.goto 5, 3) := by decide +kernel
theorem dX5_act_276 : decode cX5_act 276 = .ok (.bipush 8, 2) := by decide +kernel
theorem dX5_act_278 : decode cX5_act 278 = .ok (.ireturn, 1) := by decide +kernel
theorem dX5_act_279 : decode cX5_act 279 = .ok (.iload 4, 2) := by decide +kernel
theorem dX5_act_281 : decode cX5_act 281 = .ok (.bipush 6, 2) := by decide +kernel
theorem dX5_act_283 : decode cX5_act 283 = .ok (.if_icmp .ne 33, 3) := by decide +kernel
theorem dX5_act_286 : decode cX5_act 286 = .ok (.aload_n 0, 1) := by decide +kernel
theorem dX5_act_287 : decode cX5_act 287 = .ok (.aload_n 1, 1) := by decide +kernel
theorem dX5_act_288 : decode cX5_act 288 = .ok (.aload_n 0, 1) := by decide +kernel
theorem dX5_act_289 : decode cX5_act 289 = .ok (.aload_n 3, 1) := by decide +kernel
theorem dX5_act_290 : decode cX5_act 290 = .ok (.aload_n 0, 1) := by decide +kernel
theorem dX5_act_291 : decode cX5_act 291 = .ok (.getfield 23, 3) := by decide +kernel
theorem dX5_act_294 : decode cX5_act 294 = .ok (.getfield 121, 3) := by decide +kernel
theorem dX5_act_297 : decode cX5_act 297 = .ok (.aload_n 0, 1) := by decide +kernel
theorem dX5_act_298 : decode cX5_act 298 = .ok (.getfield 23, 3) := by decide +kernel
theorem dX5_act_301 : decode cX5_act 301 = .ok (.getfield 114, 3) := by decide +kernel
theorem dX5_act_304 : decode cX5_act 304 = .ok (.invokevirtual 217, 3) := by decide +kernel
theorem dX5_act_307 : decode cX5_act 307 = .ok (.invokevirtual 221, 3) := by decide +kernel
theorem dX5_act_310 : decode cX5_act 310 = .ok (.invokevirtual 225, 3) := by decide +kernel
theorem dX5_act_313 : decode cX5_act 313 = .ok (.goto 5, 3) := by decide +kernel
theorem dX5_act_316 : decode cX5_act 316 = .ok (.bipush 8, 2) := by decide +kernel
theorem dX5_act_318 : decode cX5_act 318 = .ok (.ireturn, 1) := by decide +kernel
theorem dX5_act_319 : decode cX5_act 319 = .ok (.aload_n 0, 1) := by decide +kernel
theorem dX5_act_320 : decode cX5_act 320 = .ok (.aload_n 1, 1) := by decide +kernel
theorem dX5_act_321 : decode cX5_act 321 = .ok (.aload_n 2, 1) := by decide +kernel
theorem dX5_act_322 : decode cX5_act 322 = .ok (.invokevirtual 228, 3) := by decide +kernel
theorem dX5_act_325 : decode cX5_act 325 = .ok (.ireturn, 1) := by decide +kernel
theorem dX5_act_326 : decode cX5_act 326 = .ok (.iload 4, 2) := by decide +kernel
theorem dX5_act_328 : decode cX5_act 328 = .ok (.iconst 4, 1) := by decide +kernel
theorem dX5_act_329 : decode cX5_act 329 = .ok (.if_icmp .ne 19, 3) := by decide +kernel
theorem dX5_act_332 : decode cX5_act 332 = .ok (.iload 5, 2) := by decide +kernel
theorem dX5_act_334 : decode cX5_act 334 = .ok (.iconst 1, 1) := by decide +kernel
theorem dX5_act_335 : decode cX5_act 335 = .ok (.isub, 1) := by decide +kernel
theorem dX5_act_336 : decode cX5_act 336 = .ok (.aload_n 3, 1) := by decide +kernel
theorem dX5_act_337 : decode cX5_act 337 = .ok (.arraylength, 1) := by decide +kernel
theorem dX5_act_338 : decode cX5_act 338 = .ok (.iload 5, 2) := by decide +kernel
theorem dX5_act_340 : decode cX5_act 340 = .ok (.isub, 1) := by decide +kernel
theorem dX5_act_341 : decode cX5_act 341 = .ok (.if_icmp .ne 7, 3) := by decide +kernel
theorem dX5_act_344 : decode cX5_act 344 = .ok (.iconst 1, 1) := by decide +kernel
theorem dX5_act_345 : decode cX5_act 345 = .ok (.goto 4, 3) := by decide +kernel
theorem dX5_act_348 : decode cX5_act 348 = .ok (.iconst 0, 1) := by decide +kernel
theorem dX5_act_349 : decode cX5_act 349 = .ok (.istore 8, 2) := by decide +kernel
theorem dX5_act_351 : decode cX5_act 351 = .ok (.iload 8, 2) := by decide +kernel
theorem dX5_act_353 : decode cX5_act 353 = .ok (.ifCond .eq 23, 3) := by decide +kernel
theorem dX5_act_356 : decode cX5_act 356 = .ok (.aload_n 3, 1) := by decide +kernel
theorem dX5_act_357 : decode cX5_act 357 = .ok (.iconst 1, 1) := by decide +kernel
theorem dX5_act_358 : decode cX5_act 358 = .ok (.aload_n 3, 1) := by decide +kernel
theorem dX5_act_359 : decode cX5_act 359 = .ok (.iload 5, 2) := by decide +kernel
theorem dX5_act_361 : decode cX5_act 361 = .ok (.aload_n 3, 1) := by decide +kernel
theorem dX5_act_362 : decode cX5_act 362 = .ok (.arraylength, 1) := by decide +kernel
theorem dX5_act_363 : decode cX5_act 363 = .ok (.iload 5, 2) := by decide +kernel
theorem dX5_act_365 : decode cX5_act 365 = .ok (.isub, 1) := by decide +kernel
theorem dX5_act_366 : decode cX5_act 366 = .ok (.invokestatic 231, 3) := by decide +kernel
theorem dX5_act_369 : decode cX5_act 369 = .ok (.ifCond .eq 7, 3) := by decide +kernel
theorem dX5_act_372 : decode cX5_act 372 = .ok (.iconst 0, 1) := by decide +kernel
theorem dX5_act_373 : decode cX5_act 373 = .ok (.goto 5, 3) := by decide +kernel
theorem dX5_act_376 : decode cX5_act 376 = .ok (.bipush 8, 2) := by decide +kernel
theorem dX5_act_378 : decode cX5_act 378 = .ok (.ireturn, 1) := by decide +kernel
theorem dX5_act_379 : decode cX5_act 379 = .ok (.aload_n 2, 1) := by decide +kernel
theorem dX5_act_380 : decode cX5_act 380 = .ok (.ifnull 12, 3) := by decide +kernel
theorem dX5_act_383 : decode cX5_act 383 = .ok (.aload_n 0, 1) := by decide +kernel
theorem dX5_act_384 : decode cX5_act 384 = .ok (.aload_n 1, 1) := by decide +kernel
theorem dX5_act_385 : decode cX5_act 385 = .ok (.aload_n 2, 1) := by decide +kernel
theorem dX5_act_386 : decode cX5_act 386 = .ok (.invokevirtual 235, 3) := by decide +kernel
theorem dX5_act_389 : decode cX5_act 389 = .ok (.goto 5, 3) := by decide +kernel
theorem dX5_act_392 : decode cX5_act 392 = .ok (.bipush 8, 2) := by decide +kernel
theorem dX5_act_394 : decode cX5_act 394 = .ok (.ireturn, 1) := by decide +kernel
theorem dX5_act_395 : decode cX5_act 395 = .ok (.aload_n 0, 1) := by decide +kernel
theorem dX5_act_396 : decode cX5_act 396 = .ok (.aload_n 1, 1) := by decide +kernel
theorem dX5_act_397 : decode cX5_act 397 = .ok (.invokevirtual 238, 3) := by decide +kernel
theorem dX5_act_400 : decode cX5_act 400 = .ok (.ireturn, 1) := by decide +kernel
def EX5_resolved : List (Nat × Nat) := []
def EX5_resolvedZ : List (Nat × Nat) := []
def EX5_isResolved : List (Nat × Nat) := [(101, 0), (280, 0)]
def EX5_isResolvedZ : List (Nat × Nat) := [(101, 0), (280, 0)]
def EX5_nameFault : List (Nat × Nat) := [(101, 0), (280, 0)]
def EX5_nameFaultZ : List (Nat × Nat) := [(101, 0), (280, 0)]
def EX5_declare : List (Nat × Nat) := [(11, 3), (101, 0)]
def EX5_propose : List (Nat × Nat) := [(11, 4), (11, 5), (11, 6), (11, 7), (11, 8), (101, 0), (280, 0)]
def EX5_leaveProof : List (Nat × Nat) := [(11, 4), (11, 5), (11, 6), (11, 7), (11, 8), (101, 0)]
set_option maxHeartbeats 4000000 in
set_option maxRecDepth 20000 in
theorem uX5_resolved (l : Launch) (dC : Nat → ClassId) (dI : Nat → Nat → Nat) (ca : Nat → ClassId) (base : Nat) (B : jF) (hB : jBok B) (hAp : jAp (dC, dI)) (hB5 : ∀ n G a H, B 5 n G a H ↔ jOb (dC, dI) 5 4 (F5 n G) a H) (hB7 : ∀ n G a H, B 7 n G a H ↔ jOb (dC, dI) 7 11 (F7 n G) a H) (hB11 : ∀ n G a H, B 11 n G a H ↔ jOb (dC, dI) 11 9 (F11 n G) a H) (hB101 : ∀ n G a H, B 101 n G a H ↔ jAr (dC, dI) (ca 1) (fun j z => True) n a H) (G0 : jT) (H0 : Heap) (r0 : Nat) (r1 : Nat) (r2 : Nat) (a3 : Int32) (a4 : Int32) (n2 : Nat) : Met l yX5_resolved (jw yX5_resolved cX5_resolved 8 (some .int)) ({ frames := 1, cells := 0, slots := 0, locals := 22 }) (va_Pc [.ref r0, .ref r1, .ref r2, .int a3, .int a4] (fun U => U.heap = H0 ∧ jX B base G0 [] H0 ∧ jG dC dI ca base U ∧ G0 r0 = some (7, 0) ∧ G0 r1 = some (11, 0) ∧ G0 r2 = some (5, n2) ∧ jP (dC, dI) G0 H0 [] ∧ n2 % 10 = 1 ∧ 0 ≤ a3.toInt ∧ 0 ≤ a4.toInt ∧ a4.toInt ≤ 13)) (va_Qi (S := Unit) (fun r u => (-1 ≤ r.toInt)) (fun u t => jRt (dC, dI) B base G0 EX5_resolved H0 [] t.heap) (jA base)) 0 0 (jA base) := by
  refine Met.ofW (cc := cX5_resolved) (maxL := 8) (ret := (some .int)) (by decide) rfl ?_
  intro p e s m args below meth c s₁ Bd hml hv
  obtain ⟨rfl, hH0, hX, hG, hg_r0, hg_r1, hg_r2, hP0, hp0, hp1, hp2, hp3⟩ := hv
  have hK := hG.1
  have hx := Bd.exec
  have hb := Bd.bytes
  have hr := Bd.returns
  have hts := atoms_spec (ws := (jw yX5_resolved cX5_resolved 8 (some .int))) Bd.pre
  have htw : ∀ w ∈ jWl, w.before _ s = true := fun w h => hts w (List.mem_cons_of_mem _ h)
  have hown : s.vm.findClass RX5 = some m.cls := findClass_of_methodNamed Bd.named
  have hlocks := Bd.notSynchronized
  obtain ⟨Q, hQ⟩ : ∃ Q, Q = MQ below (va_Qi (S := Unit) (fun r u => (-1 ≤ r.toInt)) (fun u t => jRt (dC, dI) B base G0 EX5_resolved H0 [] t.heap) (jA base)) ([.ref r0, .ref r1, .ref r2, .int a3, .int a4] : List Value).toArray s 0 0 (jA base) := ⟨_, rfl⟩
  rw [← hQ]
  have hl := lv_entry ([.ref r0, .ref r1, .ref r2, .int a3, .int a4]) (n := 8) (Nat.le_of_ble_eq_true rfl)
  rw [lg_entry_eq]
  generalize (lg_sl ([.ref r0, .ref r1, .ref r2, .int a3, .int a4]) ++ List.replicate (8 - (lg_sl ([.ref r0, .ref r1, .ref r2, .int a3, .int a4])).length) Slot.unset).toArray = ls at hl ⊢
  have hl : lv_has ls 8 [(0, .ref r0), (1, .ref r1), (2, .ref r2), (3, .int a3), (4, .int a4)] := hl
  generalize hR : (headSpec (jw yX5_resolved cX5_resolved 8 (some .int)) ({ frames := 1, cells := 0, slots := 0, locals := 22 })).room = R
  subst hH0
  have hh : jSt (dC, dI) B base G0 G0 EX5_resolved s.heap 0 0 [] [] [] s.heap [] := jSt.start hX hP0 jMc.nil jIs.nil
  clear hX hP0
  have hkm1 : ((-1) : Int32).toInt = (-1) := by decide
  have hk0 : (0 : Int32).toInt = 0 := by decide
  have hk1 : (1 : Int32).toInt = 1 := by decide
  have hk4 : (4 : Int32).toInt = 4 := by decide
  have hk9 : (9 : Int32).toInt = 9 := by decide
  have hk10 : (10 : Int32).toInt = 10 := by decide
  have hk15 : (15 : Int32).toInt = 15 := by decide
  have hk2047 : (2047 : Int32).toInt = 2047 := by decide
  have hly_5_0 := htw (u_lay RX3 TX3 0) (jWc_wsX30 _ (u_in_lay (by decide)))
  have hly_7_3 := htw (u_lay RX5 TX5 3) (jWc_wsX50 _ (u_in_lay (by decide)))
  have hly_11_3 := htw (u_lay RX9 TX9 3) (jWc_wsX90 _ (u_in_lay (by decide)))
  have hlk_34 := (htw (.fieldLink RX5 34 "ProofServer$Kernel" "scopeNames" "[I") (jWr_4 _ (List.mem_of_getElem? (i := 20) rfl)))
  have hlk_177 := (htw (.fieldLink RX5 177 "ProofServer$Goal" "variables" "[I") (jWr_81 _ (List.mem_of_getElem? (i := 15) rfl)))
  have hlk_100 := (htw (.fieldLink RX5 100 "ProofServer$State" "symbols" "[I") (jWr_81 _ (List.mem_of_getElem? (i := 9) rfl)))
  have hrg_a3 := jb_rng a3
  have hrg_a4 := jb_rng a4
  refine lv_iload_n hx hb dX5_resolved_0 rfl (lv_at hl 3 rfl) ?_
  refine lv_bipush (v := 15) hx hb dX5_resolved_1 (by decide) ?_
  refine lv_ishr hx hb dX5_resolved_3 ?_
  refine lv_topi (fun z_1 ez_1 => ?_)
  have hz_1 : z_1.toInt = a3.toInt / 2 ^ 15 := by rw [ez_1]; exact jb_ishr 15 (rfl) (by decide)
  refine lv_istore (lv' := [(5, .int z_1), (0, .ref r0), (1, .ref r1), (2, .ref r2), (3, .int a3), (4, .int a4)]) hx hb dX5_resolved_4 hl (by decide) rfl (fun ls hl => ?_)
  refine lv_iload_n hx hb dX5_resolved_6 rfl (lv_at hl 4 rfl) ?_
  refine lv_iconst (v := 4) hx hb dX5_resolved_7 (by decide) ?_
  refine lv_ishr hx hb dX5_resolved_8 ?_
  refine lv_topi (fun z_2 ez_2 => ?_)
  have hz_2 : z_2.toInt = a3.toInt / 2 ^ 4 := by rw [ez_2]; exact jb_ishr 4 (rfl) (by decide)
  refine lv_sipush (v := 2047) hx hb dX5_resolved_9 (by decide) ?_
  refine lv_iand hx hb dX5_resolved_12 ?_
  refine lv_topi (fun z_3 ez_3 => ?_)
  have hz_3 : 0 ≤ z_3.toInt ∧ z_3.toInt ≤ 2047 := by rw [ez_3]; exact jb_and z_2 (m := 2047) (k := 11) (by decide) (by decide)
  have C21 : ∀ (w0_4 : Int32) (H_4 : Heap) (locs_4 : List Loc), jSt (dC, dI) B base G0 G0 EX5_resolved s.heap 0 0 [] [] [] H_4 locs_4 → (w0_4 = 0 ∨ w0_4 = 1) → (True) → ∀ ls : Array Slot, lv_has ls 8 [(0, .ref r0), (1, .ref r1), (2, .ref r2), (3, .int a3), (4, .int a4), (5, .int z_1)] → W p l e R s m ([.ref r0, .ref r1, .ref r2, .int a3, .int a4] : List Value).toArray below meth c H_4 locs_4 0 0 Q (F0 m 21 ls [.int w0_4]) := by
    intro w0_4 H_4 locs_4 hh_4 hb_w0_4 hi_4 ls hl
    have hb_w0_4' := jb_01 hb_w0_4
    refine lv_istore (lv' := [(6, .int w0_4), (0, .ref r0), (1, .ref r1), (2, .ref r2), (3, .int a3), (4, .int a4), (5, .int z_1)]) hx hb dX5_resolved_21 hl (by decide) rfl (fun ls hl => ?_)
    refine lv_iload hx hb dX5_resolved_23 (lv_at hl 5 rfl) ?_
    refine lv_iconst (v := 1) hx hb dX5_resolved_25 (by decide) ?_
    refine lv_isub hx hb dX5_resolved_26 ?_
    refine lv_topi (fun z_5 ez_5 => ?_)
    have hz_5 : z_5.toInt = a4.toInt - 1 := by rw [ez_5]; exact jb_isub2 (rfl) ((by decide)) (by omega)
    refine lv_istore (lv' := [(7, .int z_5), (6, .int w0_4), (0, .ref r0), (1, .ref r1), (2, .ref r2), (3, .int a3), (4, .int a4), (5, .int z_1)]) hx hb dX5_resolved_27 hl (by decide) rfl (fun ls hl => ?_)
    have L29 : ∀ (N : Nat) (v7_6 : Int32) (H_6 : Heap) (locs_6 : List Loc), jSt (dC, dI) B base G0 G0 EX5_resolved s.heap 0 0 [] [] [] H_6 locs_6 → (-1 ≤ v7_6.toInt ∧ v7_6.toInt ≤ 12) → (v7_6.toInt + 1 : Int) < N → ∀ ls : Array Slot, lv_has ls 8 [(0, .ref r0), (1, .ref r1), (2, .ref r2), (3, .int a3), (4, .int a4), (5, .int z_1), (6, .int w0_4), (7, .int v7_6)] → W p l e R s m ([.ref r0, .ref r1, .ref r2, .int a3, .int a4] : List Value).toArray below meth c H_6 locs_6 0 0 Q (F0 m 29 ls []) := by
      intro N
      induction N with
      | zero => intro v7_6 H_6 locs_6 hh_6  hi_6 hm; exact absurd hm (by omega)
      | succ N L29 =>
        intro v7_6 H_6 locs_6 hh_6  hi_6 hm_6 ls hl
        obtain ⟨hi_6_0, hi_6_1⟩ := hi_6
        refine lv_iload hx hb dX5_resolved_29 (lv_at hl 7 rfl) ?_
        refine lv_if_lt (tgt := 70) hx hb dX5_resolved_31 (by decide) (fun c_7 => ?_) (fun c_7 => ?_)
        · skip
          have c_7' : v7_6.toInt < 0 := jb_lt (rfl) ((by decide)) c_7
          refine lv_aload_n hx hb dX5_resolved_70 rfl (lv_at hl 2 rfl) ?_
          refine lv_ifnull hx hb dX5_resolved_71 ?_
          refine lv_aload_n hx hb dX5_resolved_74 rfl (lv_at hl 2 rfl) ?_
          obtain ⟨v_8, hv_8, hh_9⟩ := hh_6.pin (C := RX3) (T := TX3) (N := 4) hB5 rfl (by decide) hg_r2 (i := 0) (by decide) rfl
          clear hh_6
          obtain ⟨variables_10, nvariables_10, rfl, hg_variables_10, hvavariables_10, hvbvariables_10, hvcvariables_10⟩ := hv_8
          refine j7_read hx hb hown hK (C := RX3) (T := TX3) (N := 4) rfl hly_5_0 hlk_177 (hh_9.at 0 rfl) dX5_resolved_75 ?_
          refine lv_iload hx hb dX5_resolved_78 (lv_at hl 5 rfl) ?_
          refine va_calli (A0 := jA base) (H0 := s.heap) (va_runS (As := [.ref variables_10, .int z_1]) (rest := []) ⟨hx, hb, hml, hown, hts⟩ (uX9_find l dC dI ca base B hB hAp hB101 G0 H_6 variables_10 z_1 nvariables_10) (va_cwS 2 hts (jgS (jWr_81 _ (List.mem_of_getElem? (i := 18) rfl)) (jWr_30 _ (List.mem_of_getElem? (i := 20) rfl)) (jWr_4 _ (List.mem_of_getElem? (i := 18) rfl)) (jWr_30 _ (List.mem_of_getElem? (i := 21) rfl))) rfl rfl rfl (by decide +kernel) ⟨by rw [← hR]; exact Nat.le_of_ble_eq_true rfl, by rw [← hR]; exact Nat.le_of_ble_eq_true rfl⟩) ⟨fun a U g mk q => by obtain ⟨q0, q1, q2, qK, q10, q11, q12⟩ := q; exact ⟨q0, q1, q2, jG.calling g mk a qK, q10, q11, q12⟩, fun U hU hW => ⟨rfl, hU, hh_9.2.1, hG.step hW hU hh_9.1, hg_variables_10, jP.nil, by first | omega | rfl | assumption | decide | exact Or.inl rfl | exact Or.inr rfl | (simp only; omega)⟩⟩ rfl rfl hl.1 rfl (lv_room (Nat.le_of_ble_eq_true rfl)) dX5_resolved_80 ⟨Nat.zero_le _, Nat.zero_le _⟩) hh_9.1 (fun q _ h => h) (fun q h => h) (fun r_12 u_11 t_11 H_11 locs_11 ht_11 hvm_11 hr_12 hb_11 hz_11 hk_11 hS_11 => ?_)
          rw [ht_11] at hb_11
          obtain ⟨hb_111, hb_112, hb_113, hb_114, hb_115⟩ := hb_11
          have hh_11 : jSt (dC, dI) B base G0 G0 EX5_resolved s.heap 0 0 [(r2, 5, 0, .ref variables_10)] [] [] H_11 locs_11 := ((hh_9.call hb_111 hb_112 hb_113 hb_114 hS_11 rfl (L1 := [(r2, 5, 0, .ref variables_10)]) [0] rfl rfl (M1 := []) [] rfl rfl (I1 := []) [] rfl rfl).more hb_115)
          clear hh_9 ht_11 hvm_11 hz_11 hk_11 hS_11 hb_111 hb_112 hb_113 hb_114 hb_115
          obtain ⟨hr_12_0, hr_12_1⟩ := hr_12
          refine lv_if_lt (tgt := 104) hx hb dX5_resolved_83 (by decide) (fun c_13 => ?_) (fun c_13 => ?_)
          · skip
            have c_13' : r_12.toInt < 0 := jb_lt (rfl) ((by decide)) c_13
            refine lv_aload_n hx hb dX5_resolved_104 rfl (lv_at hl 1 rfl) ?_
            obtain ⟨v_14, hv_14, hh_15⟩ := hh_11.pin (C := RX9) (T := TX9) (N := 9) hB11 rfl (by decide) hg_r1 (i := 3) (by decide) rfl
            clear hh_11
            obtain ⟨symbols_16, nsymbols_16, rfl, hg_symbols_16, hn_symbols_16⟩ := hv_14
            refine j7_read hx hb hown hK (C := RX9) (T := TX9) (N := 9) rfl hly_11_3 hlk_100 (hh_15.at 0 rfl) dX5_resolved_105 ?_
            refine lv_iload_n hx hb dX5_resolved_108 rfl (lv_at hl 3 rfl) ?_
            refine va_calli (A0 := jA base) (H0 := s.heap) (va_runS (As := [.ref symbols_16, .int a3]) (rest := []) ⟨hx, hb, hml, hown, hts⟩ (uX9_find l dC dI ca base B hB hAp hB101 G0 H_11 symbols_16 a3 nsymbols_16) (va_cwS 2 hts (jgS (jWr_81 _ (List.mem_of_getElem? (i := 18) rfl)) (jWr_30 _ (List.mem_of_getElem? (i := 20) rfl)) (jWr_4 _ (List.mem_of_getElem? (i := 18) rfl)) (jWr_30 _ (List.mem_of_getElem? (i := 21) rfl))) rfl rfl rfl (by decide +kernel) ⟨by rw [← hR]; exact Nat.le_of_ble_eq_true rfl, by rw [← hR]; exact Nat.le_of_ble_eq_true rfl⟩) ⟨fun a U g mk q => by obtain ⟨q0, q1, q2, qK, q10, q11, q12⟩ := q; exact ⟨q0, q1, q2, jG.calling g mk a qK, q10, q11, q12⟩, fun U hU hW => ⟨rfl, hU, hh_15.2.1, hG.step hW hU hh_15.1, hg_symbols_16, jP.nil, by first | omega | rfl | assumption | decide | exact Or.inl rfl | exact Or.inr rfl | (simp only; omega)⟩⟩ rfl rfl hl.1 rfl (lv_room (Nat.le_of_ble_eq_true rfl)) dX5_resolved_109 ⟨Nat.zero_le _, Nat.zero_le _⟩) hh_15.1 (fun q _ h => h) (fun q h => h) (fun r_18 u_17 t_17 H_17 locs_17 ht_17 hvm_17 hr_18 hb_17 hz_17 hk_17 hS_17 => ?_)
            rw [ht_17] at hb_17
            obtain ⟨hb_171, hb_172, hb_173, hb_174, hb_175⟩ := hb_17
            have hh_17 : jSt (dC, dI) B base G0 G0 EX5_resolved s.heap 0 0 [(r1, 11, 3, .ref symbols_16), (r2, 5, 0, .ref variables_10)] [] [] H_17 locs_17 := ((hh_15.call hb_171 hb_172 hb_173 hb_174 hS_17 rfl (L1 := [(r1, 11, 3, .ref symbols_16), (r2, 5, 0, .ref variables_10)]) [0, 1] rfl rfl (M1 := []) [] rfl rfl (I1 := []) [] rfl rfl).more hb_175)
            clear hh_15 ht_17 hvm_17 hz_17 hk_17 hS_17 hb_171 hb_172 hb_173 hb_174 hb_175
            obtain ⟨hr_18_0, hr_18_1⟩ := hr_18
            refine lv_if_lt (tgt := 119) hx hb dX5_resolved_112 (by decide) (fun c_19 => ?_) (fun c_19 => ?_)
            · skip
              have c_19' : r_18.toInt < 0 := jb_lt (rfl) ((by decide)) c_19
              refine lv_iconst (v := (-1)) hx hb dX5_resolved_119 (by decide) ?_
              rw [hQ]
              exact W.iret (v := (-1)) hx hb hr (fun t ht hW => ⟨⟨(-1), (), rfl, by first | omega | rfl | assumption | decide | exact Or.inl rfl | exact Or.inr rfl | (simp only; omega), hh_17.rt (M1 := []) [] rfl ht⟩, by rw [ht]; try exact hh_17.1.1, fun q h9 hq => by rw [ht]; try exact hh_17.1.2.1 q h9 hq⟩) hh_17.1.2.2 dX5_resolved_120
            · skip
              have c_19' : r_18.toInt ≥ 0 := jb_lt_n (rfl) ((by decide)) c_19
              refine lv_iload_n hx hb dX5_resolved_115 rfl (lv_at hl 3 rfl) ?_
              refine lv_goto (tgt := 120) hx hb dX5_resolved_116 (by decide) ?_
              rw [hQ]
              exact W.iret (v := a3) hx hb hr (fun t ht hW => ⟨⟨a3, (), rfl, by first | omega | rfl | assumption | decide | exact Or.inl rfl | exact Or.inr rfl | (simp only; omega), hh_17.rt (M1 := []) [] rfl ht⟩, by rw [ht]; try exact hh_17.1.1, fun q h9 hq => by rw [ht]; try exact hh_17.1.2.1 q h9 hq⟩) hh_17.1.2.2 dX5_resolved_120
          · skip
            have c_13' : r_12.toInt ≥ 0 := jb_lt_n (rfl) ((by decide)) c_13
            refine lv_iload hx hb dX5_resolved_86 (lv_at hl 6 rfl) ?_
            refine lv_if_eq (tgt := 102) hx hb dX5_resolved_88 (by decide) (fun c_20 => ?_) (fun c_20 => ?_)
            · skip
              have c_20' : w0_4.toInt = 0 := jb_eq (rfl) ((by decide)) c_20
              refine lv_iconst (v := (-1)) hx hb dX5_resolved_102 (by decide) ?_
              rw [hQ]
              exact W.iret (v := (-1)) hx hb hr (fun t ht hW => ⟨⟨(-1), (), rfl, by first | omega | rfl | assumption | decide | exact Or.inl rfl | exact Or.inr rfl | (simp only; omega), hh_11.rt (M1 := []) [] rfl ht⟩, by rw [ht]; try exact hh_11.1.1, fun q h9 hq => by rw [ht]; try exact hh_11.1.2.1 q h9 hq⟩) hh_11.1.2.2 dX5_resolved_103
            · skip
              have c_20' : w0_4.toInt ≠ 0 := jb_eq_n (rfl) ((by decide)) c_20
              refine lv_bipush (v := 9) hx hb dX5_resolved_91 (by decide) ?_
              refine lv_iload hx hb dX5_resolved_93 (lv_at hl 5 rfl) ?_
              refine lv_bipush (v := 15) hx hb dX5_resolved_95 (by decide) ?_
              refine lv_ishl hx hb dX5_resolved_97 ?_
              refine lv_topi (fun z_21 ez_21 => ?_)
              have hbz_21 := jb_shlc 15 32768 ez_21 (by decide) (by decide) (by omega) (by omega)
              refine lv_ior hx hb dX5_resolved_98 ?_
              refine lv_topi (fun z_22 ez_22 => ?_)
              have hbz_22 := jb_or ez_22 (by omega) (by omega)
              refine lv_goto (tgt := 103) hx hb dX5_resolved_99 (by decide) ?_
              rw [hQ]
              exact W.iret (v := z_22) hx hb hr (fun t ht hW => ⟨⟨z_22, (), rfl, by first | omega | rfl | assumption | decide | exact Or.inl rfl | exact Or.inr rfl | (simp only; omega), hh_11.rt (M1 := []) [] rfl ht⟩, by rw [ht]; try exact hh_11.1.1, fun q h9 hq => by rw [ht]; try exact hh_11.1.2.1 q h9 hq⟩) hh_11.1.2.2 dX5_resolved_103
        · skip
          have c_7' : v7_6.toInt ≥ 0 := jb_lt_n (rfl) ((by decide)) c_7
          refine lv_aload_n hx hb dX5_resolved_34 rfl (lv_at hl 0 rfl) ?_
          obtain ⟨v_23, hv_23, hh_24⟩ := hh_6.pin (C := RX5) (T := TX5) (N := 11) hB7 rfl (by decide) hg_r0 (i := 3) (by decide) rfl
          clear hh_6
          obtain ⟨scopeNames_25, rfl, hg_scopeNames_25⟩ := hv_23
          refine j7_read hx hb hown hK (C := RX5) (T := TX5) (N := 11) rfl hly_7_3 hlk_34 (hh_24.at 0 rfl) dX5_resolved_35 ?_
          refine lv_iload hx hb dX5_resolved_38 (lv_at hl 7 rfl) ?_
          refine j7_iald hx hb hK hh_24 hB101 1 rfl (by decide) hg_scopeNames_25 (x := v7_6.toInt) (rfl) (by omega) dX5_resolved_40 (fun z_26 (hz_26 : True) => ?_)
          refine lv_iload hx hb dX5_resolved_41 (lv_at hl 5 rfl) ?_
          refine lv_icmp_ne (tgt := 64) hx hb dX5_resolved_43 (by decide) (fun c_27 => ?_) (fun c_27 => ?_)
          · skip
            have c_27' : z_26.toInt ≠ z_1.toInt := jb_ne (rfl) (rfl) c_27
            obtain ⟨z_28, ez_28⟩ : ∃ y : Int32, y = v7_6 + (-1) := ⟨_, rfl⟩
            refine lv_iinc (v := z_28) (lv' := [(7, .int z_28), (0, .ref r0), (1, .ref r1), (2, .ref r2), (3, .int a3), (4, .int a4), (5, .int z_1), (6, .int w0_4)]) hx hb dX5_resolved_64 hl (k := 7) rfl (by rw [ez_28]; rfl) (by decide) rfl (fun ls hl => ?_)
            have hz_28 : z_28.toInt = v7_6.toInt + (-1) := by rw [ez_28]; exact jb_iadd2 (rfl) (by decide) (by omega)
            refine lv_goto (tgt := 29) hx hb dX5_resolved_67 (by decide) ?_
            exact L29 z_28 _ _ (hh_24.sub (L1 := []) [] rfl (M1 := []) [] rfl (I1 := []) [] rfl) (by first | omega | (refine ⟨?_, ?_⟩ <;> (first | omega | rfl | assumption | decide | exact Or.inl rfl | exact Or.inr rfl | (simp only; omega)))) (by omega) _ (lv_sub hl [1, 2, 3, 4, 5, 6, 7, 0] rfl)
          · skip
            have c_27' : z_26.toInt = z_1.toInt := jb_ne_n (rfl) (rfl) c_27
            refine lv_iload hx hb dX5_resolved_46 (lv_at hl 6 rfl) ?_
            refine lv_if_eq (tgt := 62) hx hb dX5_resolved_48 (by decide) (fun c_29 => ?_) (fun c_29 => ?_)
            · skip
              have c_29' : w0_4.toInt = 0 := jb_eq (rfl) ((by decide)) c_29
              refine lv_iconst (v := (-1)) hx hb dX5_resolved_62 (by decide) ?_
              rw [hQ]
              exact W.iret (v := (-1)) hx hb hr (fun t ht hW => ⟨⟨(-1), (), rfl, by first | omega | rfl | assumption | decide | exact Or.inl rfl | exact Or.inr rfl | (simp only; omega), hh_24.rt (M1 := []) [] rfl ht⟩, by rw [ht]; try exact hh_24.1.1, fun q h9 hq => by rw [ht]; try exact hh_24.1.2.1 q h9 hq⟩) hh_24.1.2.2 dX5_resolved_63
            · skip
              have c_29' : w0_4.toInt ≠ 0 := jb_eq_n (rfl) ((by decide)) c_29
              refine lv_bipush (v := 10) hx hb dX5_resolved_51 (by decide) ?_
              refine lv_iload hx hb dX5_resolved_53 (lv_at hl 7 rfl) ?_
              refine lv_bipush (v := 15) hx hb dX5_resolved_55 (by decide) ?_
              refine lv_ishl hx hb dX5_resolved_57 ?_
              refine lv_topi (fun z_30 ez_30 => ?_)
              have hbz_30 := jb_shlc 15 32768 ez_30 (by decide) (by decide) (by omega) (by omega)
              refine lv_ior hx hb dX5_resolved_58 ?_
              refine lv_topi (fun z_31 ez_31 => ?_)
              have hbz_31 := jb_or ez_31 (by omega) (by omega)
              refine lv_goto (tgt := 63) hx hb dX5_resolved_59 (by decide) ?_
              rw [hQ]
              exact W.iret (v := z_31) hx hb hr (fun t ht hW => ⟨⟨z_31, (), rfl, by first | omega | rfl | assumption | decide | exact Or.inl rfl | exact Or.inr rfl | (simp only; omega), hh_24.rt (M1 := []) [] rfl ht⟩, by rw [ht]; try exact hh_24.1.1, fun q h9 hq => by rw [ht]; try exact hh_24.1.2.1 q h9 hq⟩) hh_24.1.2.2 dX5_resolved_63
    exact L29 ((z_5 : Int32).toInt + 1 : Int).toNat.succ z_5 _ _ hh_4 (by first | omega | (refine ⟨?_, ?_⟩ <;> (first | omega | rfl | assumption | decide | exact Or.inl rfl | exact Or.inr rfl | (simp only; omega)))) (by omega) _ (lv_sub hl [2, 3, 4, 5, 6, 7, 1, 0] rfl)
  refine lv_if_ne (tgt := 20) hx hb dX5_resolved_13 (by decide) (fun c_32 => ?_) (fun c_32 => ?_)
  · skip
    have c_32' : z_3.toInt ≠ 0 := jb_ne (rfl) ((by decide)) c_32
    refine lv_iconst (v := 0) hx hb dX5_resolved_20 (by decide) ?_
    exact C21 0 _ _ hh (Or.inl rfl) (trivial) _ (lv_sub hl [1, 2, 3, 4, 5, 0] rfl)
  · skip
    have c_32' : z_3.toInt = 0 := jb_ne_n (rfl) ((by decide)) c_32
    refine lv_iconst (v := 1) hx hb dX5_resolved_16 (by decide) ?_
    refine lv_goto (tgt := 21) hx hb dX5_resolved_17 (by decide) ?_
    exact C21 1 _ _ hh (Or.inr rfl) (trivial) _ (lv_sub hl [1, 2, 3, 4, 5, 0] rfl)
set_option maxHeartbeats 4000000 in
set_option maxRecDepth 20000 in
theorem uX5_resolvedZ (l : Launch) (dC : Nat → ClassId) (dI : Nat → Nat → Nat) (ca : Nat → ClassId) (base : Nat) (B : jF) (hB : jBok B) (hAp : jAp (dC, dI)) (hB5 : ∀ n G a H, B 5 n G a H ↔ jOb (dC, dI) 5 4 (F5 n G) a H) (hB7 : ∀ n G a H, B 7 n G a H ↔ jOb (dC, dI) 7 11 (F7 n G) a H) (hB11 : ∀ n G a H, B 11 n G a H ↔ jOb (dC, dI) 11 9 (F11 n G) a H) (hB101 : ∀ n G a H, B 101 n G a H ↔ jAr (dC, dI) (ca 1) (fun j z => True) n a H) (G0 : jT) (H0 : Heap) (r0 : Nat) (r1 : Nat) (a3 : Int32) (a4 : Int32) : Met l yX5_resolved (jw yX5_resolved cX5_resolved 8 (some .int)) ({ frames := 1, cells := 0, slots := 0, locals := 22 }) (va_Pc [.ref r0, .ref r1, .null, .int a3, .int a4] (fun U => U.heap = H0 ∧ jX B base G0 [] H0 ∧ jG dC dI ca base U ∧ G0 r0 = some (7, 0) ∧ G0 r1 = some (11, 0) ∧ jP (dC, dI) G0 H0 [] ∧ 0 ≤ a3.toInt ∧ 0 ≤ a4.toInt ∧ a4.toInt ≤ 13)) (va_Qi (S := Unit) (fun r u => (-1 ≤ r.toInt)) (fun u t => jRt (dC, dI) B base G0 EX5_resolvedZ H0 [] t.heap) (jA base)) 0 0 (jA base) := by
  refine Met.ofW (cc := cX5_resolved) (maxL := 8) (ret := (some .int)) (by decide) rfl ?_
  intro p e s m args below meth c s₁ Bd hml hv
  obtain ⟨rfl, hH0, hX, hG, hg_r0, hg_r1, hP0, hp0, hp1, hp2⟩ := hv
  have hK := hG.1
  have hx := Bd.exec
  have hb := Bd.bytes
  have hr := Bd.returns
  have hts := atoms_spec (ws := (jw yX5_resolved cX5_resolved 8 (some .int))) Bd.pre
  have htw : ∀ w ∈ jWl, w.before _ s = true := fun w h => hts w (List.mem_cons_of_mem _ h)
  have hown : s.vm.findClass RX5 = some m.cls := findClass_of_methodNamed Bd.named
  have hlocks := Bd.notSynchronized
  obtain ⟨Q, hQ⟩ : ∃ Q, Q = MQ below (va_Qi (S := Unit) (fun r u => (-1 ≤ r.toInt)) (fun u t => jRt (dC, dI) B base G0 EX5_resolvedZ H0 [] t.heap) (jA base)) ([.ref r0, .ref r1, .null, .int a3, .int a4] : List Value).toArray s 0 0 (jA base) := ⟨_, rfl⟩
  rw [← hQ]
  have hl := lv_entry ([.ref r0, .ref r1, .null, .int a3, .int a4]) (n := 8) (Nat.le_of_ble_eq_true rfl)
  rw [lg_entry_eq]
  generalize (lg_sl ([.ref r0, .ref r1, .null, .int a3, .int a4]) ++ List.replicate (8 - (lg_sl ([.ref r0, .ref r1, .null, .int a3, .int a4])).length) Slot.unset).toArray = ls at hl ⊢
  have hl : lv_has ls 8 [(0, .ref r0), (1, .ref r1), (2, .null), (3, .int a3), (4, .int a4)] := hl
  generalize hR : (headSpec (jw yX5_resolved cX5_resolved 8 (some .int)) ({ frames := 1, cells := 0, slots := 0, locals := 22 })).room = R
  subst hH0
  have hh : jSt (dC, dI) B base G0 G0 EX5_resolvedZ s.heap 0 0 [] [] [] s.heap [] := jSt.start hX hP0 jMc.nil jIs.nil
  clear hX hP0
  have hkm1 : ((-1) : Int32).toInt = (-1) := by decide
  have hk0 : (0 : Int32).toInt = 0 := by decide
  have hk1 : (1 : Int32).toInt = 1 := by decide
  have hk4 : (4 : Int32).toInt = 4 := by decide
  have hk9 : (9 : Int32).toInt = 9 := by decide
  have hk10 : (10 : Int32).toInt = 10 := by decide
  have hk15 : (15 : Int32).toInt = 15 := by decide
  have hk2047 : (2047 : Int32).toInt = 2047 := by decide
  have hly_5_0 := htw (u_lay RX3 TX3 0) (jWc_wsX30 _ (u_in_lay (by decide)))
  have hly_7_3 := htw (u_lay RX5 TX5 3) (jWc_wsX50 _ (u_in_lay (by decide)))
  have hly_11_3 := htw (u_lay RX9 TX9 3) (jWc_wsX90 _ (u_in_lay (by decide)))
  have hlk_34 := (htw (.fieldLink RX5 34 "ProofServer$Kernel" "scopeNames" "[I") (jWr_4 _ (List.mem_of_getElem? (i := 20) rfl)))
  have hlk_177 := (htw (.fieldLink RX5 177 "ProofServer$Goal" "variables" "[I") (jWr_81 _ (List.mem_of_getElem? (i := 15) rfl)))
  have hlk_100 := (htw (.fieldLink RX5 100 "ProofServer$State" "symbols" "[I") (jWr_81 _ (List.mem_of_getElem? (i := 9) rfl)))
  have hrg_a3 := jb_rng a3
  have hrg_a4 := jb_rng a4
  refine lv_iload_n hx hb dX5_resolved_0 rfl (lv_at hl 3 rfl) ?_
  refine lv_bipush (v := 15) hx hb dX5_resolved_1 (by decide) ?_
  refine lv_ishr hx hb dX5_resolved_3 ?_
  refine lv_topi (fun z_1 ez_1 => ?_)
  have hz_1 : z_1.toInt = a3.toInt / 2 ^ 15 := by rw [ez_1]; exact jb_ishr 15 (rfl) (by decide)
  refine lv_istore (lv' := [(5, .int z_1), (0, .ref r0), (1, .ref r1), (2, .null), (3, .int a3), (4, .int a4)]) hx hb dX5_resolved_4 hl (by decide) rfl (fun ls hl => ?_)
  refine lv_iload_n hx hb dX5_resolved_6 rfl (lv_at hl 4 rfl) ?_
  refine lv_iconst (v := 4) hx hb dX5_resolved_7 (by decide) ?_
  refine lv_ishr hx hb dX5_resolved_8 ?_
  refine lv_topi (fun z_2 ez_2 => ?_)
  have hz_2 : z_2.toInt = a3.toInt / 2 ^ 4 := by rw [ez_2]; exact jb_ishr 4 (rfl) (by decide)
  refine lv_sipush (v := 2047) hx hb dX5_resolved_9 (by decide) ?_
  refine lv_iand hx hb dX5_resolved_12 ?_
  refine lv_topi (fun z_3 ez_3 => ?_)
  have hz_3 : 0 ≤ z_3.toInt ∧ z_3.toInt ≤ 2047 := by rw [ez_3]; exact jb_and z_2 (m := 2047) (k := 11) (by decide) (by decide)
  have C21 : ∀ (w0_4 : Int32) (H_4 : Heap) (locs_4 : List Loc), jSt (dC, dI) B base G0 G0 EX5_resolvedZ s.heap 0 0 [] [] [] H_4 locs_4 → (w0_4 = 0 ∨ w0_4 = 1) → (True) → ∀ ls : Array Slot, lv_has ls 8 [(0, .ref r0), (1, .ref r1), (2, .null), (3, .int a3), (4, .int a4), (5, .int z_1)] → W p l e R s m ([.ref r0, .ref r1, .null, .int a3, .int a4] : List Value).toArray below meth c H_4 locs_4 0 0 Q (F0 m 21 ls [.int w0_4]) := by
    intro w0_4 H_4 locs_4 hh_4 hb_w0_4 hi_4 ls hl
    have hb_w0_4' := jb_01 hb_w0_4
    refine lv_istore (lv' := [(6, .int w0_4), (0, .ref r0), (1, .ref r1), (2, .null), (3, .int a3), (4, .int a4), (5, .int z_1)]) hx hb dX5_resolved_21 hl (by decide) rfl (fun ls hl => ?_)
    refine lv_iload hx hb dX5_resolved_23 (lv_at hl 5 rfl) ?_
    refine lv_iconst (v := 1) hx hb dX5_resolved_25 (by decide) ?_
    refine lv_isub hx hb dX5_resolved_26 ?_
    refine lv_topi (fun z_5 ez_5 => ?_)
    have hz_5 : z_5.toInt = a4.toInt - 1 := by rw [ez_5]; exact jb_isub2 (rfl) ((by decide)) (by omega)
    refine lv_istore (lv' := [(7, .int z_5), (6, .int w0_4), (0, .ref r0), (1, .ref r1), (2, .null), (3, .int a3), (4, .int a4), (5, .int z_1)]) hx hb dX5_resolved_27 hl (by decide) rfl (fun ls hl => ?_)
    have L29 : ∀ (N : Nat) (v7_6 : Int32) (H_6 : Heap) (locs_6 : List Loc), jSt (dC, dI) B base G0 G0 EX5_resolvedZ s.heap 0 0 [] [] [] H_6 locs_6 → (-1 ≤ v7_6.toInt ∧ v7_6.toInt ≤ 12) → (v7_6.toInt + 1 : Int) < N → ∀ ls : Array Slot, lv_has ls 8 [(0, .ref r0), (1, .ref r1), (2, .null), (3, .int a3), (4, .int a4), (5, .int z_1), (6, .int w0_4), (7, .int v7_6)] → W p l e R s m ([.ref r0, .ref r1, .null, .int a3, .int a4] : List Value).toArray below meth c H_6 locs_6 0 0 Q (F0 m 29 ls []) := by
      intro N
      induction N with
      | zero => intro v7_6 H_6 locs_6 hh_6  hi_6 hm; exact absurd hm (by omega)
      | succ N L29 =>
        intro v7_6 H_6 locs_6 hh_6  hi_6 hm_6 ls hl
        obtain ⟨hi_6_0, hi_6_1⟩ := hi_6
        refine lv_iload hx hb dX5_resolved_29 (lv_at hl 7 rfl) ?_
        refine lv_if_lt (tgt := 70) hx hb dX5_resolved_31 (by decide) (fun c_7 => ?_) (fun c_7 => ?_)
        · skip
          have c_7' : v7_6.toInt < 0 := jb_lt (rfl) ((by decide)) c_7
          refine j7_nld_n hx hb dX5_resolved_70 rfl (lv_at hl 2 rfl) ?_
          refine lv_ifnullN (tgt := 104) hx hb dX5_resolved_71 (by decide) ?_
          refine lv_aload_n hx hb dX5_resolved_104 rfl (lv_at hl 1 rfl) ?_
          obtain ⟨v_8, hv_8, hh_9⟩ := hh_6.pin (C := RX9) (T := TX9) (N := 9) hB11 rfl (by decide) hg_r1 (i := 3) (by decide) rfl
          clear hh_6
          obtain ⟨symbols_10, nsymbols_10, rfl, hg_symbols_10, hn_symbols_10⟩ := hv_8
          refine j7_read hx hb hown hK (C := RX9) (T := TX9) (N := 9) rfl hly_11_3 hlk_100 (hh_9.at 0 rfl) dX5_resolved_105 ?_
          refine lv_iload_n hx hb dX5_resolved_108 rfl (lv_at hl 3 rfl) ?_
          refine va_calli (A0 := jA base) (H0 := s.heap) (va_runS (As := [.ref symbols_10, .int a3]) (rest := []) ⟨hx, hb, hml, hown, hts⟩ (uX9_find l dC dI ca base B hB hAp hB101 G0 H_6 symbols_10 a3 nsymbols_10) (va_cwS 2 hts (jgS (jWr_81 _ (List.mem_of_getElem? (i := 18) rfl)) (jWr_30 _ (List.mem_of_getElem? (i := 20) rfl)) (jWr_4 _ (List.mem_of_getElem? (i := 18) rfl)) (jWr_30 _ (List.mem_of_getElem? (i := 21) rfl))) rfl rfl rfl (by decide +kernel) ⟨by rw [← hR]; exact Nat.le_of_ble_eq_true rfl, by rw [← hR]; exact Nat.le_of_ble_eq_true rfl⟩) ⟨fun a U g mk q => by obtain ⟨q0, q1, q2, qK, q10, q11, q12⟩ := q; exact ⟨q0, q1, q2, jG.calling g mk a qK, q10, q11, q12⟩, fun U hU hW => ⟨rfl, hU, hh_9.2.1, hG.step hW hU hh_9.1, hg_symbols_10, jP.nil, by first | omega | rfl | assumption | decide | exact Or.inl rfl | exact Or.inr rfl | (simp only; omega)⟩⟩ rfl rfl hl.1 rfl (lv_room (Nat.le_of_ble_eq_true rfl)) dX5_resolved_109 ⟨Nat.zero_le _, Nat.zero_le _⟩) hh_9.1 (fun q _ h => h) (fun q h => h) (fun r_12 u_11 t_11 H_11 locs_11 ht_11 hvm_11 hr_12 hb_11 hz_11 hk_11 hS_11 => ?_)
          rw [ht_11] at hb_11
          obtain ⟨hb_111, hb_112, hb_113, hb_114, hb_115⟩ := hb_11
          have hh_11 : jSt (dC, dI) B base G0 G0 EX5_resolvedZ s.heap 0 0 [(r1, 11, 3, .ref symbols_10)] [] [] H_11 locs_11 := ((hh_9.call hb_111 hb_112 hb_113 hb_114 hS_11 rfl (L1 := [(r1, 11, 3, .ref symbols_10)]) [0] rfl rfl (M1 := []) [] rfl rfl (I1 := []) [] rfl rfl).more hb_115)
          clear hh_9 ht_11 hvm_11 hz_11 hk_11 hS_11 hb_111 hb_112 hb_113 hb_114 hb_115
          obtain ⟨hr_12_0, hr_12_1⟩ := hr_12
          refine lv_if_lt (tgt := 119) hx hb dX5_resolved_112 (by decide) (fun c_13 => ?_) (fun c_13 => ?_)
          · skip
            have c_13' : r_12.toInt < 0 := jb_lt (rfl) ((by decide)) c_13
            refine lv_iconst (v := (-1)) hx hb dX5_resolved_119 (by decide) ?_
            rw [hQ]
            exact W.iret (v := (-1)) hx hb hr (fun t ht hW => ⟨⟨(-1), (), rfl, by first | omega | rfl | assumption | decide | exact Or.inl rfl | exact Or.inr rfl | (simp only; omega), hh_11.rt (M1 := []) [] rfl ht⟩, by rw [ht]; try exact hh_11.1.1, fun q h9 hq => by rw [ht]; try exact hh_11.1.2.1 q h9 hq⟩) hh_11.1.2.2 dX5_resolved_120
          · skip
            have c_13' : r_12.toInt ≥ 0 := jb_lt_n (rfl) ((by decide)) c_13
            refine lv_iload_n hx hb dX5_resolved_115 rfl (lv_at hl 3 rfl) ?_
            refine lv_goto (tgt := 120) hx hb dX5_resolved_116 (by decide) ?_
            rw [hQ]
            exact W.iret (v := a3) hx hb hr (fun t ht hW => ⟨⟨a3, (), rfl, by first | omega | rfl | assumption | decide | exact Or.inl rfl | exact Or.inr rfl | (simp only; omega), hh_11.rt (M1 := []) [] rfl ht⟩, by rw [ht]; try exact hh_11.1.1, fun q h9 hq => by rw [ht]; try exact hh_11.1.2.1 q h9 hq⟩) hh_11.1.2.2 dX5_resolved_120
        · skip
          have c_7' : v7_6.toInt ≥ 0 := jb_lt_n (rfl) ((by decide)) c_7
          refine lv_aload_n hx hb dX5_resolved_34 rfl (lv_at hl 0 rfl) ?_
          obtain ⟨v_14, hv_14, hh_15⟩ := hh_6.pin (C := RX5) (T := TX5) (N := 11) hB7 rfl (by decide) hg_r0 (i := 3) (by decide) rfl
          clear hh_6
          obtain ⟨scopeNames_16, rfl, hg_scopeNames_16⟩ := hv_14
          refine j7_read hx hb hown hK (C := RX5) (T := TX5) (N := 11) rfl hly_7_3 hlk_34 (hh_15.at 0 rfl) dX5_resolved_35 ?_
          refine lv_iload hx hb dX5_resolved_38 (lv_at hl 7 rfl) ?_
          refine j7_iald hx hb hK hh_15 hB101 1 rfl (by decide) hg_scopeNames_16 (x := v7_6.toInt) (rfl) (by omega) dX5_resolved_40 (fun z_17 (hz_17 : True) => ?_)
          refine lv_iload hx hb dX5_resolved_41 (lv_at hl 5 rfl) ?_
          refine lv_icmp_ne (tgt := 64) hx hb dX5_resolved_43 (by decide) (fun c_18 => ?_) (fun c_18 => ?_)
          · skip
            have c_18' : z_17.toInt ≠ z_1.toInt := jb_ne (rfl) (rfl) c_18
            obtain ⟨z_19, ez_19⟩ : ∃ y : Int32, y = v7_6 + (-1) := ⟨_, rfl⟩
            refine lv_iinc (v := z_19) (lv' := [(7, .int z_19), (0, .ref r0), (1, .ref r1), (2, .null), (3, .int a3), (4, .int a4), (5, .int z_1), (6, .int w0_4)]) hx hb dX5_resolved_64 hl (k := 7) rfl (by rw [ez_19]; rfl) (by decide) rfl (fun ls hl => ?_)
            have hz_19 : z_19.toInt = v7_6.toInt + (-1) := by rw [ez_19]; exact jb_iadd2 (rfl) (by decide) (by omega)
            refine lv_goto (tgt := 29) hx hb dX5_resolved_67 (by decide) ?_
            exact L29 z_19 _ _ (hh_15.sub (L1 := []) [] rfl (M1 := []) [] rfl (I1 := []) [] rfl) (by first | omega | (refine ⟨?_, ?_⟩ <;> (first | omega | rfl | assumption | decide | exact Or.inl rfl | exact Or.inr rfl | (simp only; omega)))) (by omega) _ (lv_sub hl [1, 2, 3, 4, 5, 6, 7, 0] rfl)
          · skip
            have c_18' : z_17.toInt = z_1.toInt := jb_ne_n (rfl) (rfl) c_18
            refine lv_iload hx hb dX5_resolved_46 (lv_at hl 6 rfl) ?_
            refine lv_if_eq (tgt := 62) hx hb dX5_resolved_48 (by decide) (fun c_20 => ?_) (fun c_20 => ?_)
            · skip
              have c_20' : w0_4.toInt = 0 := jb_eq (rfl) ((by decide)) c_20
              refine lv_iconst (v := (-1)) hx hb dX5_resolved_62 (by decide) ?_
              rw [hQ]
              exact W.iret (v := (-1)) hx hb hr (fun t ht hW => ⟨⟨(-1), (), rfl, by first | omega | rfl | assumption | decide | exact Or.inl rfl | exact Or.inr rfl | (simp only; omega), hh_15.rt (M1 := []) [] rfl ht⟩, by rw [ht]; try exact hh_15.1.1, fun q h9 hq => by rw [ht]; try exact hh_15.1.2.1 q h9 hq⟩) hh_15.1.2.2 dX5_resolved_63
            · skip
              have c_20' : w0_4.toInt ≠ 0 := jb_eq_n (rfl) ((by decide)) c_20
              refine lv_bipush (v := 10) hx hb dX5_resolved_51 (by decide) ?_
              refine lv_iload hx hb dX5_resolved_53 (lv_at hl 7 rfl) ?_
              refine lv_bipush (v := 15) hx hb dX5_resolved_55 (by decide) ?_
              refine lv_ishl hx hb dX5_resolved_57 ?_
              refine lv_topi (fun z_21 ez_21 => ?_)
              have hbz_21 := jb_shlc 15 32768 ez_21 (by decide) (by decide) (by omega) (by omega)
              refine lv_ior hx hb dX5_resolved_58 ?_
              refine lv_topi (fun z_22 ez_22 => ?_)
              have hbz_22 := jb_or ez_22 (by omega) (by omega)
              refine lv_goto (tgt := 63) hx hb dX5_resolved_59 (by decide) ?_
              rw [hQ]
              exact W.iret (v := z_22) hx hb hr (fun t ht hW => ⟨⟨z_22, (), rfl, by first | omega | rfl | assumption | decide | exact Or.inl rfl | exact Or.inr rfl | (simp only; omega), hh_15.rt (M1 := []) [] rfl ht⟩, by rw [ht]; try exact hh_15.1.1, fun q h9 hq => by rw [ht]; try exact hh_15.1.2.1 q h9 hq⟩) hh_15.1.2.2 dX5_resolved_63
    exact L29 ((z_5 : Int32).toInt + 1 : Int).toNat.succ z_5 _ _ hh_4 (by first | omega | (refine ⟨?_, ?_⟩ <;> (first | omega | rfl | assumption | decide | exact Or.inl rfl | exact Or.inr rfl | (simp only; omega)))) (by omega) _ (lv_sub hl [2, 3, 4, 5, 6, 7, 1, 0] rfl)
  refine lv_if_ne (tgt := 20) hx hb dX5_resolved_13 (by decide) (fun c_23 => ?_) (fun c_23 => ?_)
  · skip
    have c_23' : z_3.toInt ≠ 0 := jb_ne (rfl) ((by decide)) c_23
    refine lv_iconst (v := 0) hx hb dX5_resolved_20 (by decide) ?_
    exact C21 0 _ _ hh (Or.inl rfl) (trivial) _ (lv_sub hl [1, 2, 3, 4, 5, 0] rfl)
  · skip
    have c_23' : z_3.toInt = 0 := jb_ne_n (rfl) ((by decide)) c_23
    refine lv_iconst (v := 1) hx hb dX5_resolved_16 (by decide) ?_
    refine lv_goto (tgt := 21) hx hb dX5_resolved_17 (by decide) ?_
    exact C21 1 _ _ hh (Or.inr rfl) (trivial) _ (lv_sub hl [1, 2, 3, 4, 5, 0] rfl)
set_option maxHeartbeats 4000000 in
set_option maxRecDepth 20000 in
theorem uX5_isResolved (l : Launch) (dC : Nat → ClassId) (dI : Nat → Nat → Nat) (ca : Nat → ClassId) (base : Nat) (B : jF) (hB : jBok B) (hAp : jAp (dC, dI)) (hB5 : ∀ n G a H, B 5 n G a H ↔ jOb (dC, dI) 5 4 (F5 n G) a H) (hB7 : ∀ n G a H, B 7 n G a H ↔ jOb (dC, dI) 7 11 (F7 n G) a H) (hB11 : ∀ n G a H, B 11 n G a H ↔ jOb (dC, dI) 11 9 (F11 n G) a H) (hB12 : ∀ n G a H, B 12 n G a H ↔ jOb (dC, dI) 12 11 (F12b n G) a H) (hB101 : ∀ n G a H, B 101 n G a H ↔ jAr (dC, dI) (ca 1) (fun j z => True) n a H) (hB280 : ∀ n G a H, B 280 n G a H ↔ jAr (dC, dI) (ca 1) (fun j z => -1 ≤ z.toInt) n a H) (G0 : jT) (H0 : Heap) (r0 : Nat) (r1 : Nat) (r2 : Nat) (n2 : Nat) : Met l yX5_isResolved (jw yX5_isResolved cX5_isResolved 7 (some .boolean)) ({ frames := 2, cells := 0, slots := 0, locals := 49 }) (va_Pc [.ref r0, .ref r1, .ref r2] (fun U => U.heap = H0 ∧ jX B base G0 [] H0 ∧ jG dC dI ca base U ∧ G0 r0 = some (7, 0) ∧ G0 r1 = some (11, 0) ∧ G0 r2 = some (5, n2) ∧ jP (dC, dI) G0 H0 [] ∧ n2 % 10 = 1)) (va_Qi (S := Unit) (fun r u => (r = 0 ∨ r = 1) ∧ (True)) (fun u t => jRt (dC, dI) B base G0 EX5_isResolved H0 [] t.heap) (jA base)) 0 0 (jA base) := by
  refine Met.ofW (cc := cX5_isResolved) (maxL := 7) (ret := (some .boolean)) (by decide) rfl ?_
  intro p e s m args below meth c s₁ Bd hml hv
  obtain ⟨rfl, hH0, hX, hG, hg_r0, hg_r1, hg_r2, hP0, hp0⟩ := hv
  have hK := hG.1
  have hx := Bd.exec
  have hb := Bd.bytes
  have hr := Bd.returns
  have hts := atoms_spec (ws := (jw yX5_isResolved cX5_isResolved 7 (some .boolean))) Bd.pre
  have htw : ∀ w ∈ jWl, w.before _ s = true := fun w h => hts w (List.mem_cons_of_mem _ h)
  have hown : s.vm.findClass RX5 = some m.cls := findClass_of_methodNamed Bd.named
  have hlocks := Bd.notSynchronized
  obtain ⟨Q, hQ⟩ : ∃ Q, Q = MQ below (va_Qi (S := Unit) (fun r u => (r = 0 ∨ r = 1) ∧ (True)) (fun u t => jRt (dC, dI) B base G0 EX5_isResolved H0 [] t.heap) (jA base)) ([.ref r0, .ref r1, .ref r2] : List Value).toArray s 0 0 (jA base) := ⟨_, rfl⟩
  rw [← hQ]
  have hl := lv_entry ([.ref r0, .ref r1, .ref r2]) (n := 7) (Nat.le_of_ble_eq_true rfl)
  rw [lg_entry_eq]
  generalize (lg_sl ([.ref r0, .ref r1, .ref r2]) ++ List.replicate (7 - (lg_sl ([.ref r0, .ref r1, .ref r2])).length) Slot.unset).toArray = ls at hl ⊢
  have hl : lv_has ls 7 [(0, .ref r0), (1, .ref r1), (2, .ref r2)] := hl
  generalize hR : (headSpec (jw yX5_isResolved cX5_isResolved 7 (some .boolean)) ({ frames := 2, cells := 0, slots := 0, locals := 49 })).room = R
  subst hH0
  have hh : jSt (dC, dI) B base G0 G0 EX5_isResolved s.heap 0 0 [] [] [] s.heap [] := jSt.start hX hP0 jMc.nil jIs.nil
  clear hX hP0
  have hk0 : (0 : Int32).toInt = 0 := by decide
  have hk1 : (1 : Int32).toInt = 1 := by decide
  have hk5 : (5 : Int32).toInt = 5 := by decide
  have hk6 : (6 : Int32).toInt = 6 := by decide
  have hk7 : (7 : Int32).toInt = 7 := by decide
  have hk8 : (8 : Int32).toInt = 8 := by decide
  have hk15 : (15 : Int32).toInt = 15 := by decide
  have hly_7_1 := htw (u_lay RX5 TX5 1) (jWc_wsX50 _ (u_in_lay (by decide)))
  have hly_7_3 := htw (u_lay RX5 TX5 3) (jWc_wsX50 _ (u_in_lay (by decide)))
  have hly_7_4 := htw (u_lay RX5 TX5 4) (jWc_wsX50 _ (u_in_lay (by decide)))
  have hly_11_3 := htw (u_lay RX9 TX9 3) (jWc_wsX90 _ (u_in_lay (by decide)))
  have hly_12_9 := htw (u_lay RX10 TX10 9) (jWc_wsX100 _ (u_in_lay (by decide)))
  have hly_12_10 := htw (u_lay RX10 TX10 10) (jWc_wsX100 _ (u_in_lay (by decide)))
  have hlk_23 := (htw (.fieldLink RX5 23 "ProofServer$Kernel" "syntax" "LProofServer$Syntax;") (jWr_4 _ (List.mem_of_getElem? (i := 15) rfl)))
  have hlk_121 := (htw (.fieldLink RX5 121 "ProofServer$Syntax" "nodes" "[I") (jWr_82 _ (List.mem_of_getElem? (i := 7) rfl)))
  have hlk_114 := (htw (.fieldLink RX5 114 "ProofServer$Syntax" "nodeCount" "I") (jWr_82 _ (List.mem_of_getElem? (i := 5) rfl)))
  have hlk_38 := (htw (.fieldLink RX5 38 "ProofServer$Kernel" "scopeEnds" "[I") (jWr_4 _ (List.mem_of_getElem? (i := 21) rfl)))
  have hlk_34 := (htw (.fieldLink RX5 34 "ProofServer$Kernel" "scopeNames" "[I") (jWr_4 _ (List.mem_of_getElem? (i := 20) rfl)))
  have hlk_100 := (htw (.fieldLink RX5 100 "ProofServer$State" "symbols" "[I") (jWr_81 _ (List.mem_of_getElem? (i := 9) rfl)))
  refine lv_aload_n hx hb dX5_isResolved_0 rfl (lv_at hl 0 rfl) ?_
  obtain ⟨v_1, hv_1, hh_2⟩ := hh.pin (C := RX5) (T := TX5) (N := 11) hB7 rfl (by decide) hg_r0 (i := 1) (by decide) rfl
  clear hh
  obtain ⟨syntax_3, rfl, hg_syntax_3⟩ := hv_1
  refine j7_read hx hb hown hK (C := RX5) (T := TX5) (N := 11) rfl hly_7_1 hlk_23 (hh_2.at 0 rfl) dX5_isResolved_1 ?_
  obtain ⟨v_4, hv_4, hh_5⟩ := hh_2.pin (C := RX10) (T := TX10) (N := 11) hB12 rfl (by decide) hg_syntax_3 (i := 9) (by decide) rfl
  clear hh_2
  obtain ⟨nodes_6, rfl, hg_nodes_6⟩ := hv_4
  refine j7_read hx hb hown hK (C := RX10) (T := TX10) (N := 11) rfl hly_12_9 hlk_121 (hh_5.at 0 rfl) dX5_isResolved_4 ?_
  refine lv_astore_n (lv' := [(3, .ref nodes_6), (0, .ref r0), (1, .ref r1), (2, .ref r2)]) hx hb dX5_isResolved_7 rfl hl (by decide) rfl (fun ls hl => ?_)
  refine lv_iconst (v := 0) hx hb dX5_isResolved_8 (by decide) ?_
  refine lv_istore (lv' := [(4, .int 0), (3, .ref nodes_6), (0, .ref r0), (1, .ref r1), (2, .ref r2)]) hx hb dX5_isResolved_9 hl (by decide) rfl (fun ls hl => ?_)
  refine lv_iconst (v := 0) hx hb dX5_isResolved_11 (by decide) ?_
  refine lv_istore (lv' := [(5, .int 0), (4, .int 0), (3, .ref nodes_6), (0, .ref r0), (1, .ref r1), (2, .ref r2)]) hx hb dX5_isResolved_12 hl (by decide) rfl (fun ls hl => ?_)
  have L14 : ∀ (N : Nat) (v4_7 : Int32) (v5_7 : Int32) (H_7 : Heap) (locs_7 : List Loc), jSt (dC, dI) B base G0 G0 EX5_isResolved s.heap 0 0 [(syntax_3, 12, 9, .ref nodes_6), (r0, 7, 1, .ref syntax_3)] [] [] H_7 locs_7 → (0 ≤ v5_7.toInt ∧ v5_7.toInt ≤ 3000 ∧ 0 ≤ v4_7.toInt ∧ v4_7.toInt ≤ 13) → (3000 - v5_7.toInt : Int) < N → ∀ ls : Array Slot, lv_has ls 7 [(0, .ref r0), (1, .ref r1), (2, .ref r2), (3, .ref nodes_6), (4, .int v4_7), (5, .int v5_7)] → W p l e R s m ([.ref r0, .ref r1, .ref r2] : List Value).toArray below meth c H_7 locs_7 0 0 Q (F0 m 14 ls []) := by
    intro N
    induction N with
    | zero => intro v4_7 v5_7 H_7 locs_7 hh_7  hi_7 hm; exact absurd hm (by omega)
    | succ N L14 =>
      intro v4_7 v5_7 H_7 locs_7 hh_7  hi_7 hm_7 ls hl
      obtain ⟨hi_7_0, hi_7_1, hi_7_2, hi_7_3⟩ := hi_7
      refine lv_iload hx hb dX5_isResolved_14 (lv_at hl 5 rfl) ?_
      refine lv_aload_n hx hb dX5_isResolved_16 rfl (lv_at hl 0 rfl) ?_
      refine j7_read hx hb hown hK (C := RX5) (T := TX5) (N := 11) rfl hly_7_1 hlk_23 (hh_7.at 1 rfl) dX5_isResolved_17 ?_
      obtain ⟨v_8, hv_8, hh_9⟩ := hh_7.pin (C := RX10) (T := TX10) (N := 11) hB12 rfl (by decide) hg_syntax_3 (i := 10) (by decide) rfl
      clear hh_7
      obtain ⟨nodeCount_10, rfl, hlonodeCount_10, hhinodeCount_10⟩ := hv_8
      refine j7_read hx hb hown hK (C := RX10) (T := TX10) (N := 11) rfl hly_12_10 hlk_114 (hh_9.at 0 rfl) dX5_isResolved_20 ?_
      refine lv_icmp_ge (tgt := 193) hx hb dX5_isResolved_23 (by decide) (fun c_11 => ?_) (fun c_11 => ?_)
      · skip
        have c_11' : v5_7.toInt ≥ nodeCount_10.toInt := jb_ge (rfl) (rfl) c_11
        refine lv_iconst (v := 1) hx hb dX5_isResolved_193 (by decide) ?_
        rw [hQ]
        exact W.zret (v := 1) hx hb hr (jb_nz (Or.inr rfl)) (fun t ht hW => ⟨⟨1, (), rfl, ⟨(Or.inr rfl), trivial⟩, hh_9.rt (M1 := []) [] rfl ht⟩, by rw [ht]; try exact hh_9.1.1, fun q h9 hq => by rw [ht]; try exact hh_9.1.2.1 q h9 hq⟩) hh_9.1.2.2 dX5_isResolved_194
      · skip
        have c_11' : v5_7.toInt < nodeCount_10.toInt := jb_ge_n (rfl) (rfl) c_11
        refine lv_iload hx hb dX5_isResolved_26 (lv_at hl 5 rfl) ?_
        refine lv_aload_n hx hb dX5_isResolved_28 rfl (lv_at hl 3 rfl) ?_
        refine j7_len hx hb hK hh_9 hB280 1 rfl (by decide) hg_nodes_6 (by omega) dX5_isResolved_29 (fun z_12 hz_12 => ?_)
        refine lv_icmp_ge (tgt := 193) hx hb dX5_isResolved_30 (by decide) (fun c_13 => ?_) (fun c_13 => ?_)
        · skip
          have c_13' : v5_7.toInt ≥ z_12.toInt := jb_ge (rfl) (rfl) c_13
          refine lv_iconst (v := 1) hx hb dX5_isResolved_193 (by decide) ?_
          rw [hQ]
          exact W.zret (v := 1) hx hb hr (jb_nz (Or.inr rfl)) (fun t ht hW => ⟨⟨1, (), rfl, ⟨(Or.inr rfl), trivial⟩, hh_9.rt (M1 := []) [] rfl ht⟩, by rw [ht]; try exact hh_9.1.1, fun q h9 hq => by rw [ht]; try exact hh_9.1.2.1 q h9 hq⟩) hh_9.1.2.2 dX5_isResolved_194
        · skip
          have c_13' : v5_7.toInt < z_12.toInt := jb_ge_n (rfl) (rfl) c_13
          have L33 : ∀ (N : Nat) (v4_14 : Int32) (H_14 : Heap) (locs_14 : List Loc), jSt (dC, dI) B base G0 G0 EX5_isResolved s.heap 0 0 [(syntax_3, 12, 10, .int nodeCount_10), (syntax_3, 12, 9, .ref nodes_6), (r0, 7, 1, .ref syntax_3)] [] [] H_14 locs_14 → (0 ≤ v4_14.toInt ∧ v4_14.toInt ≤ 13) → (v4_14.toInt : Int) < N → ∀ ls : Array Slot, lv_has ls 7 [(0, .ref r0), (1, .ref r1), (2, .ref r2), (3, .ref nodes_6), (4, .int v4_14), (5, .int v5_7)] → W p l e R s m ([.ref r0, .ref r1, .ref r2] : List Value).toArray below meth c H_14 locs_14 0 0 Q (F0 m 33 ls []) := by
            intro N
            induction N with
            | zero => intro v4_14 H_14 locs_14 hh_14  hi_14 hm; exact absurd hm (by omega)
            | succ N L33 =>
              intro v4_14 H_14 locs_14 hh_14  hi_14 hm_14 ls hl
              obtain ⟨hi_14_0, hi_14_1⟩ := hi_14
              refine lv_iload hx hb dX5_isResolved_33 (lv_at hl 4 rfl) ?_
              have C58 : ∀ (H_15 : Heap) (locs_15 : List Loc), jSt (dC, dI) B base G0 G0 EX5_isResolved s.heap 0 0 [(syntax_3, 12, 10, .int nodeCount_10), (syntax_3, 12, 9, .ref nodes_6), (r0, 7, 1, .ref syntax_3)] [] [] H_15 locs_15 → (True) → ∀ ls : Array Slot, lv_has ls 7 [(0, .ref r0), (1, .ref r1), (2, .ref r2), (3, .ref nodes_6), (4, .int v4_14), (5, .int v5_7)] → W p l e R s m ([.ref r0, .ref r1, .ref r2] : List Value).toArray below meth c H_15 locs_15 0 0 Q (F0 m 58 ls []) := by
                intro  H_15 locs_15 hh_15  hi_15 ls hl
                obtain ⟨f_l3_16, hh_16⟩ := hh_15.cpin hB280 (by decide) (by decide) hg_nodes_6
                clear hh_15
                refine lv_aload_n hx hb dX5_isResolved_58 rfl (lv_at hl 3 rfl) ?_
                refine lv_iload hx hb dX5_isResolved_59 (lv_at hl 5 rfl) ?_
                refine j7_ialdM hx hb hK hh_16 hB280 1 rfl (by decide) hg_nodes_6 (x := v5_7.toInt) (rfl) (by omega) (j := 0) rfl dX5_isResolved_61 (fun z_17 ez_17 (hz_17 : -1 ≤ z_17.toInt) => ?_)
                have hqz_17 : z_17.toInt = jSo f_l3_16 (v5_7.toInt) := by unfold jSo; rw [ez_17]
                refine lv_bipush (v := 15) hx hb dX5_isResolved_62 (by decide) ?_
                refine lv_iand hx hb dX5_isResolved_64 ?_
                refine lv_topi (fun z_18 ez_18 => ?_)
                have hz_18 : 0 ≤ z_18.toInt ∧ z_18.toInt ≤ 15 := by rw [ez_18]; exact jb_and z_17 (m := 15) (k := 4) (by decide) (by decide)
                have hbz_18 : z_18.toInt = z_17.toInt % 16 := by rw [ez_18, jb_and15]
                refine lv_istore (lv' := [(6, .int z_18), (0, .ref r0), (1, .ref r1), (2, .ref r2), (3, .ref nodes_6), (4, .int v4_14), (5, .int v5_7)]) hx hb dX5_isResolved_65 hl (by decide) rfl (fun ls hl => ?_)
                refine lv_iload hx hb dX5_isResolved_67 (lv_at hl 0 rfl) ?_
                refine lv_iconst (v := 5) hx hb dX5_isResolved_69 (by decide) ?_
                refine lv_icmp_eq (tgt := 80) hx hb dX5_isResolved_70 (by decide) (fun c_19 => ?_) (fun c_19 => ?_)
                · skip
                  have c_19' : z_18.toInt = 5 := jb_eq (rfl) ((by decide)) c_19
                  refine lv_iload hx hb dX5_isResolved_80 (lv_at hl 5 rfl) ?_
                  refine lv_aload_n hx hb dX5_isResolved_82 rfl (lv_at hl 1 rfl) ?_
                  obtain ⟨v_20, hv_20, hh_21⟩ := hh_16.pin (C := RX5) (T := TX5) (N := 11) hB7 rfl (by decide) hg_r0 (i := 3) (by decide) rfl
                  clear hh_16
                  obtain ⟨scopeNames_22, rfl, hg_scopeNames_22⟩ := hv_20
                  refine j7_read hx hb hown hK (C := RX5) (T := TX5) (N := 11) rfl hly_7_3 hlk_34 (hh_21.at 0 rfl) dX5_isResolved_83 ?_
                  refine j7_len hx hb hK hh_21 hB101 1 rfl (by decide) hg_scopeNames_22 (by omega) dX5_isResolved_86 (fun z_23 hz_23 => ?_)
                  refine lv_icmp_lt (tgt := 92) hx hb dX5_isResolved_87 (by decide) (fun c_24 => ?_) (fun c_24 => ?_)
                  · skip
                    have c_24' : v4_14.toInt < z_23.toInt := jb_lt (rfl) (rfl) c_24
                    refine lv_aload_n hx hb dX5_isResolved_92 rfl (lv_at hl 1 rfl) ?_
                    refine j7_read hx hb hown hK (C := RX5) (T := TX5) (N := 11) rfl hly_7_3 hlk_34 (hh_21.at 0 rfl) dX5_isResolved_93 ?_
                    refine lv_iload hx hb dX5_isResolved_96 (lv_at hl 5 rfl) ?_
                    refine lv_aload_n hx hb dX5_isResolved_98 rfl (lv_at hl 4 rfl) ?_
                    refine lv_iload hx hb dX5_isResolved_99 (lv_at hl 6 rfl) ?_
                    refine j7_ialdM hx hb hK hh_21 hB280 1 rfl (by decide) hg_nodes_6 (x := v5_7.toInt) (rfl) (by omega) (j := 0) rfl dX5_isResolved_101 (fun z_25 ez_25 (hz_25 : -1 ≤ z_25.toInt) => ?_)
                    have hqz_25 : z_25.toInt = jSo f_l3_16 (v5_7.toInt) := by unfold jSo; rw [ez_25]
                    refine lv_bipush (v := 15) hx hb dX5_isResolved_102 (by decide) ?_
                    refine lv_ishr hx hb dX5_isResolved_104 ?_
                    refine lv_topi (fun z_26 ez_26 => ?_)
                    have hz_26 : z_26.toInt = z_25.toInt / 2 ^ 15 := by rw [ez_26]; exact jb_ishr 15 (rfl) (by decide)
                    refine j7_iast hx hb hK hh_21 hB hB101 1 rfl (by decide) (by decide) rfl rfl rfl hg_scopeNames_22 (x := v4_14.toInt) (rfl) (by omega) (trivial) dX5_isResolved_105 (fun H_27 locs_27 hh_27 => ?_)
                    clear hh_21
                    refine lv_aload_n hx hb dX5_isResolved_106 rfl (lv_at hl 1 rfl) ?_
                    obtain ⟨v_28, hv_28, hh_29⟩ := hh_27.pin (C := RX5) (T := TX5) (N := 11) hB7 rfl (by decide) hg_r0 (i := 4) (by decide) rfl
                    clear hh_27
                    obtain ⟨scopeEnds_30, rfl, hg_scopeEnds_30⟩ := hv_28
                    refine j7_read hx hb hown hK (C := RX5) (T := TX5) (N := 11) rfl hly_7_4 hlk_38 (hh_29.at 0 rfl) dX5_isResolved_107 ?_
                    refine lv_iload hx hb dX5_isResolved_110 (lv_at hl 5 rfl) ?_
                    refine lv_aload_n hx hb dX5_isResolved_112 rfl (lv_at hl 4 rfl) ?_
                    refine lv_iload hx hb dX5_isResolved_113 (lv_at hl 6 rfl) ?_
                    refine lv_aload_n hx hb dX5_isResolved_115 rfl (lv_at hl 1 rfl) ?_
                    refine j7_read hx hb hown hK (C := RX5) (T := TX5) (N := 11) rfl hly_7_1 hlk_23 (hh_29.at 4 rfl) dX5_isResolved_116 ?_
                    refine j7_read hx hb hown hK (C := RX10) (T := TX10) (N := 11) rfl hly_12_10 hlk_114 (hh_29.at 2 rfl) dX5_isResolved_119 ?_
                    refine va_calli (A0 := jA base) (H0 := s.heap) (va_runSN (As := [.ref nodes_6, .int v5_7, .int nodeCount_10]) (rest := [.int v4_14, .ref scopeEnds_30]) ⟨hx, hb, hml, hown, hts⟩ (uX11_endOfB l dC dI ca base B hB hAp hB280 G0 H_27 nodes_6 v5_7 nodeCount_10 3000) ⟨va_cnB 3 hts (jgW (jWr_32 _ (List.mem_of_getElem? (i := 4) rfl))) rfl rfl rfl (hG.2.2.1 RX5 183 yX11_endOf "ProofServer" (List.mem_of_getElem? (i := 1460) (by decide +kernel))) (htw (.initialized RX11) (jWr_1 _ (List.mem_of_getElem? (i := 2) rfl))) (by decide +kernel) ⟨by rw [← hR]; exact Nat.le_of_ble_eq_true rfl, by rw [← hR]; exact Nat.le_of_ble_eq_true rfl⟩, htw (.static yX11_endOf) (jWr_32 _ (List.mem_of_getElem? (i := 3) rfl)), trivial⟩ ⟨fun a U g mk q => by obtain ⟨q0, q1, q2, qK, q10, q11, q12⟩ := q; exact ⟨q0, q1, q2, jG.calling g mk a qK, q10, q11, q12⟩, fun U hU hW => ⟨rfl, hU, hh_29.2.1, hG.step hW hU hh_29.1, hg_nodes_6, jP.nil, by first | omega | (refine ⟨?_, ?_, ?_⟩ <;> (first | omega | rfl | assumption | decide | exact Or.inl rfl | exact Or.inr rfl | (simp only; omega)))⟩⟩ rfl rfl hl.1 rfl (lv_room (Nat.le_of_ble_eq_true rfl)) dX5_isResolved_122 ⟨Nat.zero_le _, Nat.zero_le _⟩) hh_29.1 (fun q _ h => h) (fun q h => h) (fun r_32 u_31 t_31 H_31 locs_31 ht_31 hvm_31 hr_32 hb_31 hz_31 hk_31 hS_31 => ?_)
                    rw [ht_31] at hb_31
                    obtain ⟨hb_311, hb_312, hb_313, hb_314, hb_315⟩ := hb_31
                    have hh_31 : jSt (dC, dI) B base G0 G0 EX5_isResolved s.heap 0 0 [(r0, 7, 4, .ref scopeEnds_30), (r0, 7, 3, .ref scopeNames_22), (syntax_3, 12, 10, .int nodeCount_10), (syntax_3, 12, 9, .ref nodes_6), (r0, 7, 1, .ref syntax_3)] [(nodes_6, 280, 3000, ca 1, f_l3_16)] [] H_31 locs_31 := ((hh_29.call hb_311 hb_312 hb_313 hb_314 hS_31 rfl (L1 := [(r0, 7, 4, .ref scopeEnds_30), (r0, 7, 3, .ref scopeNames_22), (syntax_3, 12, 10, .int nodeCount_10), (syntax_3, 12, 9, .ref nodes_6), (r0, 7, 1, .ref syntax_3)]) [0, 1, 2, 3, 4] rfl rfl (M1 := [(nodes_6, 280, 3000, ca 1, f_l3_16)]) [0] rfl rfl (I1 := []) [] rfl rfl).more hb_315)
                    clear hh_29 ht_31 hvm_31 hz_31 hk_31 hS_31 hb_311 hb_312 hb_313 hb_314 hb_315
                    obtain ⟨hr_32_0, hr_32_1⟩ := hr_32
                    refine j7_iast hx hb hK hh_31 hB hB101 1 rfl (by decide) (by decide) rfl rfl rfl hg_scopeEnds_30 (x := v4_14.toInt) (rfl) (by omega) (trivial) dX5_isResolved_125 (fun H_33 locs_33 hh_33 => ?_)
                    clear hh_31
                    obtain ⟨z_34, ez_34⟩ : ∃ y : Int32, y = v4_14 + 1 := ⟨_, rfl⟩
                    refine lv_iinc (v := z_34) (lv' := [(4, .int z_34), (6, .int z_18), (0, .ref r0), (1, .ref r1), (2, .ref r2), (3, .ref nodes_6), (5, .int v5_7)]) hx hb dX5_isResolved_126 hl (k := 5) rfl (by rw [ez_34]; rfl) (by decide) rfl (fun ls hl => ?_)
                    have hz_34 : z_34.toInt = v4_14.toInt + 1 := by rw [ez_34]; exact jb_iadd2 (rfl) (by decide) (by omega)
                    refine lv_goto (tgt := 187) hx hb dX5_isResolved_129 (by decide) ?_
                    obtain ⟨z_35, ez_35⟩ : ∃ y : Int32, y = v5_7 + 1 := ⟨_, rfl⟩
                    refine lv_iinc (v := z_35) (lv' := [(5, .int z_35), (4, .int z_34), (6, .int z_18), (0, .ref r0), (1, .ref r1), (2, .ref r2), (3, .ref nodes_6)]) hx hb dX5_isResolved_187 hl (k := 6) rfl (by rw [ez_35]; rfl) (by decide) rfl (fun ls hl => ?_)
                    have hz_35 : z_35.toInt = v5_7.toInt + 1 := by rw [ez_35]; exact jb_iadd2 (rfl) (by decide) (by omega)
                    refine lv_goto (tgt := 14) hx hb dX5_isResolved_190 (by decide) ?_
                    exact L14 z_34 z_35 _ _ (hh_33.sub (L1 := [(syntax_3, 12, 9, .ref nodes_6), (r0, 7, 1, .ref syntax_3)]) [3, 4] rfl (M1 := []) [] rfl (I1 := []) [] rfl) (by first | omega | (refine ⟨?_, ?_, ?_, ?_⟩ <;> (first | omega | rfl | assumption | decide | exact Or.inl rfl | exact Or.inr rfl | (simp only; omega)))) (by omega) _ (lv_sub hl [3, 4, 5, 6, 1, 0] rfl)
                  · skip
                    have c_24' : v4_14.toInt ≥ z_23.toInt := jb_lt_n (rfl) (rfl) c_24
                    refine lv_iconst (v := 0) hx hb dX5_isResolved_90 (by decide) ?_
                    rw [hQ]
                    exact W.zret (v := 0) hx hb hr (jb_nz (Or.inl rfl)) (fun t ht hW => ⟨⟨0, (), rfl, ⟨(Or.inl rfl), trivial⟩, hh_21.rt (M1 := []) [] rfl ht⟩, by rw [ht]; try exact hh_21.1.1, fun q h9 hq => by rw [ht]; try exact hh_21.1.2.1 q h9 hq⟩) hh_21.1.2.2 dX5_isResolved_91
                · skip
                  have c_19' : z_18.toInt ≠ 5 := jb_eq_n (rfl) ((by decide)) c_19
                  refine lv_iload hx hb dX5_isResolved_73 (lv_at hl 0 rfl) ?_
                  refine lv_bipush (v := 6) hx hb dX5_isResolved_75 (by decide) ?_
                  refine lv_icmp_ne (tgt := 132) hx hb dX5_isResolved_77 (by decide) (fun c_36 => ?_) (fun c_36 => ?_)
                  · skip
                    have c_36' : z_18.toInt ≠ 6 := jb_ne (rfl) ((by decide)) c_36
                    refine lv_iload hx hb dX5_isResolved_132 (lv_at hl 0 rfl) ?_
                    refine lv_bipush (v := 7) hx hb dX5_isResolved_134 (by decide) ?_
                    refine lv_icmp_ne (tgt := 155) hx hb dX5_isResolved_136 (by decide) (fun c_37 => ?_) (fun c_37 => ?_)
                    · skip
                      have c_37' : z_18.toInt ≠ 7 := jb_ne (rfl) ((by decide)) c_37
                      refine lv_iload hx hb dX5_isResolved_155 (lv_at hl 0 rfl) ?_
                      refine lv_bipush (v := 8) hx hb dX5_isResolved_157 (by decide) ?_
                      refine lv_icmp_ne (tgt := 187) hx hb dX5_isResolved_159 (by decide) (fun c_38 => ?_) (fun c_38 => ?_)
                      · skip
                        have c_38' : z_18.toInt ≠ 8 := jb_ne (rfl) ((by decide)) c_38
                        obtain ⟨z_39, ez_39⟩ : ∃ y : Int32, y = v5_7 + 1 := ⟨_, rfl⟩
                        refine lv_iinc (v := z_39) (lv' := [(5, .int z_39), (6, .int z_18), (0, .ref r0), (1, .ref r1), (2, .ref r2), (3, .ref nodes_6), (4, .int v4_14)]) hx hb dX5_isResolved_187 hl (k := 6) rfl (by rw [ez_39]; rfl) (by decide) rfl (fun ls hl => ?_)
                        have hz_39 : z_39.toInt = v5_7.toInt + 1 := by rw [ez_39]; exact jb_iadd2 (rfl) (by decide) (by omega)
                        refine lv_goto (tgt := 14) hx hb dX5_isResolved_190 (by decide) ?_
                        exact L14 v4_14 z_39 _ _ (hh_16.sub (L1 := [(syntax_3, 12, 9, .ref nodes_6), (r0, 7, 1, .ref syntax_3)]) [1, 2] rfl (M1 := []) [] rfl (I1 := []) [] rfl) (by first | omega | (refine ⟨?_, ?_, ?_, ?_⟩ <;> (first | omega | rfl | assumption | decide | exact Or.inl rfl | exact Or.inr rfl | (simp only; omega)))) (by omega) _ (lv_sub hl [2, 3, 4, 5, 6, 0] rfl)
                      · skip
                        have c_38' : z_18.toInt = 8 := jb_ne_n (rfl) ((by decide)) c_38
                        refine lv_aload_n hx hb dX5_isResolved_162 rfl (lv_at hl 4 rfl) ?_
                        refine lv_iload hx hb dX5_isResolved_163 (lv_at hl 6 rfl) ?_
                        refine lv_aload_n hx hb dX5_isResolved_165 rfl (lv_at hl 1 rfl) ?_
                        refine lv_aload_n hx hb dX5_isResolved_166 rfl (lv_at hl 2 rfl) ?_
                        refine lv_aload_n hx hb dX5_isResolved_167 rfl (lv_at hl 3 rfl) ?_
                        refine lv_aload_n hx hb dX5_isResolved_168 rfl (lv_at hl 4 rfl) ?_
                        refine lv_iload hx hb dX5_isResolved_169 (lv_at hl 6 rfl) ?_
                        refine j7_ialdM hx hb hK hh_16 hB280 1 rfl (by decide) hg_nodes_6 (x := v5_7.toInt) (rfl) (by omega) (j := 0) rfl dX5_isResolved_171 (fun z_40 ez_40 (hz_40 : -1 ≤ z_40.toInt) => ?_)
                        have hqz_40 : z_40.toInt = jSo f_l3_16 (v5_7.toInt) := by unfold jSo; rw [ez_40]
                        refine lv_iload hx hb dX5_isResolved_172 (lv_at hl 5 rfl) ?_
                        refine va_calli (A0 := jA base) (H0 := s.heap) (va_runV (As := [.ref r1, .ref r2, .int z_40, .int v4_14]) (rest := [.int v5_7, .ref nodes_6]) ⟨hx, hb, hml, hown, hts⟩ (uX5_resolved l dC dI ca base B hB hAp hB5 hB7 hB11 hB101 G0 H_15 r0 r1 r2 z_40 v4_14 n2) (cwV 4 hts (jgV (jWr_82 _ (List.mem_of_getElem? (i := 17) rfl)) (jWr_82 _ (List.mem_of_getElem? (i := 18) rfl)) (jWr_82 _ (List.mem_of_getElem? (i := 19) rfl)) (jWr_2 _ (List.mem_of_getElem? (i := 4) rfl)) (jWr_82 _ (List.mem_of_getElem? (i := 20) rfl))) rfl rfl rfl (by decide +kernel) ⟨by rw [← hR]; exact Nat.le_of_ble_eq_true rfl, by rw [← hR]; exact Nat.le_of_ble_eq_true rfl⟩) ⟨fun a U g mk q => by obtain ⟨q0, q1, q2, qK, q10, q11, q12, q13, q14⟩ := q; exact ⟨q0, q1, q2, jG.calling g mk a qK, q10, q11, q12, q13, q14⟩, hh_16.recv (C := RX5) (T := TX5) (N := 11) hB7 rfl (by decide) hg_r0 hK, fun U hU hW => ⟨rfl, hU, hh_16.2.1, hG.step hW hU hh_16.1, hg_r0, hg_r1, hg_r2, jP.nil, by first | omega | (refine ⟨?_, ?_, ?_, ?_⟩ <;> (first | omega | rfl | assumption | decide | exact Or.inl rfl | exact Or.inr rfl | (simp only; omega)))⟩⟩ rfl rfl hl.1 rfl (lv_room (Nat.le_of_ble_eq_true rfl)) dX5_isResolved_174 ⟨Nat.zero_le _, Nat.zero_le _⟩) hh_16.1 (fun q _ h => h) (fun q h => h) (fun r_42 u_41 t_41 H_41 locs_41 ht_41 hvm_41 hr_42 hb_41 hz_41 hk_41 hS_41 => ?_)
                        rw [ht_41] at hb_41
                        obtain ⟨hb_411, hb_412, hb_413, hb_414, hb_415⟩ := hb_41
                        have hh_41 : jSt (dC, dI) B base G0 G0 EX5_isResolved s.heap 0 0 [(syntax_3, 12, 10, .int nodeCount_10), (syntax_3, 12, 9, .ref nodes_6), (r0, 7, 1, .ref syntax_3)] [(nodes_6, 280, 3000, ca 1, f_l3_16)] [] H_41 locs_41 := ((hh_16.call hb_411 hb_412 hb_413 hb_414 hS_41 rfl (L1 := [(syntax_3, 12, 10, .int nodeCount_10), (syntax_3, 12, 9, .ref nodes_6), (r0, 7, 1, .ref syntax_3)]) [0, 1, 2] rfl rfl (M1 := [(nodes_6, 280, 3000, ca 1, f_l3_16)]) [0] rfl rfl (I1 := []) [] rfl rfl).more hb_415)
                        clear hh_16 ht_41 hvm_41 hz_41 hk_41 hS_41 hb_411 hb_412 hb_413 hb_414 hb_415
                        refine j7_iastU hx hb hK hh_41 hB hB280 1 rfl (by decide) (by decide) rfl 0 rfl (M1 := []) [] rfl rfl rfl hg_nodes_6 (x := v5_7.toInt) (rfl) (by omega) (by first | omega | rfl | assumption | decide | exact Or.inl rfl | exact Or.inr rfl | (simp only; omega)) dX5_isResolved_177 (fun H_43 locs_43 fs_44 hv_43 ho_43 hh_43 => ?_)
                        have hv_43 : jSo fs_44 (v5_7.toInt) = r_42.toInt := by unfold jSo; rw [hv_43]; try exact rfl
                        clear hh_41
                        refine lv_aload_n hx hb dX5_isResolved_178 rfl (lv_at hl 4 rfl) ?_
                        refine lv_iload hx hb dX5_isResolved_179 (lv_at hl 6 rfl) ?_
                        refine j7_ialdM hx hb hK hh_43 hB280 1 rfl (by decide) hg_nodes_6 (x := v5_7.toInt) (rfl) (by omega) (j := 0) rfl dX5_isResolved_181 (fun z_45 ez_45 (hz_45 : -1 ≤ z_45.toInt) => ?_)
                        have hqz_45 : z_45.toInt = jSo fs_44 (v5_7.toInt) := by unfold jSo; rw [ez_45]
                        refine lv_if_ge (tgt := 187) hx hb dX5_isResolved_182 (by decide) (fun c_46 => ?_) (fun c_46 => ?_)
                        · skip
                          have c_46' : z_45.toInt ≥ 0 := jb_ge (rfl) ((by decide)) c_46
                          obtain ⟨z_47, ez_47⟩ : ∃ y : Int32, y = v5_7 + 1 := ⟨_, rfl⟩
                          refine lv_iinc (v := z_47) (lv' := [(5, .int z_47), (6, .int z_18), (0, .ref r0), (1, .ref r1), (2, .ref r2), (3, .ref nodes_6), (4, .int v4_14)]) hx hb dX5_isResolved_187 hl (k := 6) rfl (by rw [ez_47]; rfl) (by decide) rfl (fun ls hl => ?_)
                          have hz_47 : z_47.toInt = v5_7.toInt + 1 := by rw [ez_47]; exact jb_iadd2 (rfl) (by decide) (by omega)
                          refine lv_goto (tgt := 14) hx hb dX5_isResolved_190 (by decide) ?_
                          exact L14 v4_14 z_47 _ _ (hh_43.sub (L1 := [(syntax_3, 12, 9, .ref nodes_6), (r0, 7, 1, .ref syntax_3)]) [1, 2] rfl (M1 := []) [] rfl (I1 := []) [] rfl) (by first | omega | (refine ⟨?_, ?_, ?_, ?_⟩ <;> (first | omega | rfl | assumption | decide | exact Or.inl rfl | exact Or.inr rfl | (simp only; omega)))) (by omega) _ (lv_sub hl [2, 3, 4, 5, 6, 0] rfl)
                        · skip
                          have c_46' : z_45.toInt < 0 := jb_ge_n (rfl) ((by decide)) c_46
                          refine lv_iconst (v := 0) hx hb dX5_isResolved_185 (by decide) ?_
                          rw [hQ]
                          exact W.zret (v := 0) hx hb hr (jb_nz (Or.inl rfl)) (fun t ht hW => ⟨⟨0, (), rfl, ⟨(Or.inl rfl), trivial⟩, hh_43.rt (M1 := []) [] rfl ht⟩, by rw [ht]; try exact hh_43.1.1, fun q h9 hq => by rw [ht]; try exact hh_43.1.2.1 q h9 hq⟩) hh_43.1.2.2 dX5_isResolved_186
                    · skip
                      have c_37' : z_18.toInt = 7 := jb_ne_n (rfl) ((by decide)) c_37
                      refine lv_aload_n hx hb dX5_isResolved_139 rfl (lv_at hl 2 rfl) ?_
                      obtain ⟨v_48, hv_48, hh_49⟩ := hh_16.pin (C := RX9) (T := TX9) (N := 9) hB11 rfl (by decide) hg_r1 (i := 3) (by decide) rfl
                      clear hh_16
                      obtain ⟨symbols_50, nsymbols_50, rfl, hg_symbols_50, hn_symbols_50⟩ := hv_48
                      refine j7_read hx hb hown hK (C := RX9) (T := TX9) (N := 9) rfl hly_11_3 hlk_100 (hh_49.at 0 rfl) dX5_isResolved_140 ?_
                      refine lv_aload_n hx hb dX5_isResolved_143 rfl (lv_at hl 4 rfl) ?_
                      refine lv_iload hx hb dX5_isResolved_144 (lv_at hl 6 rfl) ?_
                      refine j7_ialdM hx hb hK hh_49 hB280 1 rfl (by decide) hg_nodes_6 (x := v5_7.toInt) (rfl) (by omega) (j := 0) rfl dX5_isResolved_146 (fun z_51 ez_51 (hz_51 : -1 ≤ z_51.toInt) => ?_)
                      have hqz_51 : z_51.toInt = jSo f_l3_16 (v5_7.toInt) := by unfold jSo; rw [ez_51]
                      refine va_calli (A0 := jA base) (H0 := s.heap) (va_runS (As := [.ref symbols_50, .int z_51]) (rest := []) ⟨hx, hb, hml, hown, hts⟩ (uX9_find l dC dI ca base B hB hAp hB101 G0 H_15 symbols_50 z_51 nsymbols_50) (va_cwS 2 hts (jgS (jWr_81 _ (List.mem_of_getElem? (i := 18) rfl)) (jWr_30 _ (List.mem_of_getElem? (i := 20) rfl)) (jWr_4 _ (List.mem_of_getElem? (i := 18) rfl)) (jWr_30 _ (List.mem_of_getElem? (i := 21) rfl))) rfl rfl rfl (by decide +kernel) ⟨by rw [← hR]; exact Nat.le_of_ble_eq_true rfl, by rw [← hR]; exact Nat.le_of_ble_eq_true rfl⟩) ⟨fun a U g mk q => by obtain ⟨q0, q1, q2, qK, q10, q11, q12⟩ := q; exact ⟨q0, q1, q2, jG.calling g mk a qK, q10, q11, q12⟩, fun U hU hW => ⟨rfl, hU, hh_49.2.1, hG.step hW hU hh_49.1, hg_symbols_50, jP.nil, by first | omega | rfl | assumption | decide | exact Or.inl rfl | exact Or.inr rfl | (simp only; omega)⟩⟩ rfl rfl hl.1 rfl (lv_room (Nat.le_of_ble_eq_true rfl)) dX5_isResolved_147 ⟨Nat.zero_le _, Nat.zero_le _⟩) hh_49.1 (fun q _ h => h) (fun q h => h) (fun r_53 u_52 t_52 H_52 locs_52 ht_52 hvm_52 hr_53 hb_52 hz_52 hk_52 hS_52 => ?_)
                      rw [ht_52] at hb_52
                      obtain ⟨hb_521, hb_522, hb_523, hb_524, hb_525⟩ := hb_52
                      have hh_52 : jSt (dC, dI) B base G0 G0 EX5_isResolved s.heap 0 0 [(r1, 11, 3, .ref symbols_50), (syntax_3, 12, 10, .int nodeCount_10), (syntax_3, 12, 9, .ref nodes_6), (r0, 7, 1, .ref syntax_3)] [(nodes_6, 280, 3000, ca 1, f_l3_16)] [] H_52 locs_52 := ((hh_49.call hb_521 hb_522 hb_523 hb_524 hS_52 rfl (L1 := [(r1, 11, 3, .ref symbols_50), (syntax_3, 12, 10, .int nodeCount_10), (syntax_3, 12, 9, .ref nodes_6), (r0, 7, 1, .ref syntax_3)]) [0, 1, 2, 3] rfl rfl (M1 := [(nodes_6, 280, 3000, ca 1, f_l3_16)]) [0] rfl rfl (I1 := []) [] rfl rfl).more hb_525)
                      clear hh_49 ht_52 hvm_52 hz_52 hk_52 hS_52 hb_521 hb_522 hb_523 hb_524 hb_525
                      obtain ⟨hr_53_0, hr_53_1⟩ := hr_53
                      refine lv_if_ge (tgt := 155) hx hb dX5_isResolved_150 (by decide) (fun c_54 => ?_) (fun c_54 => ?_)
                      · skip
                        have c_54' : r_53.toInt ≥ 0 := jb_ge (rfl) ((by decide)) c_54
                        refine lv_iload hx hb dX5_isResolved_155 (lv_at hl 0 rfl) ?_
                        refine lv_bipush (v := 8) hx hb dX5_isResolved_157 (by decide) ?_
                        refine lv_icmp_ne (tgt := 187) hx hb dX5_isResolved_159 (by decide) (fun c_55 => ?_) (fun c_55 => ?_)
                        · skip
                          have c_55' : z_18.toInt ≠ 8 := jb_ne (rfl) ((by decide)) c_55
                          obtain ⟨z_56, ez_56⟩ : ∃ y : Int32, y = v5_7 + 1 := ⟨_, rfl⟩
                          refine lv_iinc (v := z_56) (lv' := [(5, .int z_56), (6, .int z_18), (0, .ref r0), (1, .ref r1), (2, .ref r2), (3, .ref nodes_6), (4, .int v4_14)]) hx hb dX5_isResolved_187 hl (k := 6) rfl (by rw [ez_56]; rfl) (by decide) rfl (fun ls hl => ?_)
                          have hz_56 : z_56.toInt = v5_7.toInt + 1 := by rw [ez_56]; exact jb_iadd2 (rfl) (by decide) (by omega)
                          refine lv_goto (tgt := 14) hx hb dX5_isResolved_190 (by decide) ?_
                          exact L14 v4_14 z_56 _ _ (hh_52.sub (L1 := [(syntax_3, 12, 9, .ref nodes_6), (r0, 7, 1, .ref syntax_3)]) [2, 3] rfl (M1 := []) [] rfl (I1 := []) [] rfl) (by first | omega | (refine ⟨?_, ?_, ?_, ?_⟩ <;> (first | omega | rfl | assumption | decide | exact Or.inl rfl | exact Or.inr rfl | (simp only; omega)))) (by omega) _ (lv_sub hl [2, 3, 4, 5, 6, 0] rfl)
                        · skip
                          have c_55' : z_18.toInt = 8 := jb_ne_n (rfl) ((by decide)) c_55
                          refine lv_aload_n hx hb dX5_isResolved_162 rfl (lv_at hl 4 rfl) ?_
                          refine lv_iload hx hb dX5_isResolved_163 (lv_at hl 6 rfl) ?_
                          refine lv_aload_n hx hb dX5_isResolved_165 rfl (lv_at hl 1 rfl) ?_
                          refine lv_aload_n hx hb dX5_isResolved_166 rfl (lv_at hl 2 rfl) ?_
                          refine lv_aload_n hx hb dX5_isResolved_167 rfl (lv_at hl 3 rfl) ?_
                          refine lv_aload_n hx hb dX5_isResolved_168 rfl (lv_at hl 4 rfl) ?_
                          refine lv_iload hx hb dX5_isResolved_169 (lv_at hl 6 rfl) ?_
                          refine j7_ialdM hx hb hK hh_52 hB280 1 rfl (by decide) hg_nodes_6 (x := v5_7.toInt) (rfl) (by omega) (j := 0) rfl dX5_isResolved_171 (fun z_57 ez_57 (hz_57 : -1 ≤ z_57.toInt) => ?_)
                          have hqz_57 : z_57.toInt = jSo f_l3_16 (v5_7.toInt) := by unfold jSo; rw [ez_57]
                          refine lv_iload hx hb dX5_isResolved_172 (lv_at hl 5 rfl) ?_
                          refine va_calli (A0 := jA base) (H0 := s.heap) (va_runV (As := [.ref r1, .ref r2, .int z_57, .int v4_14]) (rest := [.int v5_7, .ref nodes_6]) ⟨hx, hb, hml, hown, hts⟩ (uX5_resolved l dC dI ca base B hB hAp hB5 hB7 hB11 hB101 G0 H_52 r0 r1 r2 z_57 v4_14 n2) (cwV 4 hts (jgV (jWr_82 _ (List.mem_of_getElem? (i := 17) rfl)) (jWr_82 _ (List.mem_of_getElem? (i := 18) rfl)) (jWr_82 _ (List.mem_of_getElem? (i := 19) rfl)) (jWr_2 _ (List.mem_of_getElem? (i := 4) rfl)) (jWr_82 _ (List.mem_of_getElem? (i := 20) rfl))) rfl rfl rfl (by decide +kernel) ⟨by rw [← hR]; exact Nat.le_of_ble_eq_true rfl, by rw [← hR]; exact Nat.le_of_ble_eq_true rfl⟩) ⟨fun a U g mk q => by obtain ⟨q0, q1, q2, qK, q10, q11, q12, q13, q14⟩ := q; exact ⟨q0, q1, q2, jG.calling g mk a qK, q10, q11, q12, q13, q14⟩, hh_52.recv (C := RX5) (T := TX5) (N := 11) hB7 rfl (by decide) hg_r0 hK, fun U hU hW => ⟨rfl, hU, hh_52.2.1, hG.step hW hU hh_52.1, hg_r0, hg_r1, hg_r2, jP.nil, by first | omega | (refine ⟨?_, ?_, ?_, ?_⟩ <;> (first | omega | rfl | assumption | decide | exact Or.inl rfl | exact Or.inr rfl | (simp only; omega)))⟩⟩ rfl rfl hl.1 rfl (lv_room (Nat.le_of_ble_eq_true rfl)) dX5_isResolved_174 ⟨Nat.zero_le _, Nat.zero_le _⟩) hh_52.1 (fun q _ h => h) (fun q h => h) (fun r_59 u_58 t_58 H_58 locs_58 ht_58 hvm_58 hr_59 hb_58 hz_58 hk_58 hS_58 => ?_)
                          rw [ht_58] at hb_58
                          obtain ⟨hb_581, hb_582, hb_583, hb_584, hb_585⟩ := hb_58
                          have hh_58 : jSt (dC, dI) B base G0 G0 EX5_isResolved s.heap 0 0 [(r1, 11, 3, .ref symbols_50), (syntax_3, 12, 10, .int nodeCount_10), (syntax_3, 12, 9, .ref nodes_6), (r0, 7, 1, .ref syntax_3)] [(nodes_6, 280, 3000, ca 1, f_l3_16)] [] H_58 locs_58 := ((hh_52.call hb_581 hb_582 hb_583 hb_584 hS_58 rfl (L1 := [(r1, 11, 3, .ref symbols_50), (syntax_3, 12, 10, .int nodeCount_10), (syntax_3, 12, 9, .ref nodes_6), (r0, 7, 1, .ref syntax_3)]) [0, 1, 2, 3] rfl rfl (M1 := [(nodes_6, 280, 3000, ca 1, f_l3_16)]) [0] rfl rfl (I1 := []) [] rfl rfl).more hb_585)
                          clear hh_52 ht_58 hvm_58 hz_58 hk_58 hS_58 hb_581 hb_582 hb_583 hb_584 hb_585
                          refine j7_iastU hx hb hK hh_58 hB hB280 1 rfl (by decide) (by decide) rfl 0 rfl (M1 := []) [] rfl rfl rfl hg_nodes_6 (x := v5_7.toInt) (rfl) (by omega) (by first | omega | rfl | assumption | decide | exact Or.inl rfl | exact Or.inr rfl | (simp only; omega)) dX5_isResolved_177 (fun H_60 locs_60 fs_61 hv_60 ho_60 hh_60 => ?_)
                          have hv_60 : jSo fs_61 (v5_7.toInt) = r_59.toInt := by unfold jSo; rw [hv_60]; try exact rfl
                          clear hh_58
                          refine lv_aload_n hx hb dX5_isResolved_178 rfl (lv_at hl 4 rfl) ?_
                          refine lv_iload hx hb dX5_isResolved_179 (lv_at hl 6 rfl) ?_
                          refine j7_ialdM hx hb hK hh_60 hB280 1 rfl (by decide) hg_nodes_6 (x := v5_7.toInt) (rfl) (by omega) (j := 0) rfl dX5_isResolved_181 (fun z_62 ez_62 (hz_62 : -1 ≤ z_62.toInt) => ?_)
                          have hqz_62 : z_62.toInt = jSo fs_61 (v5_7.toInt) := by unfold jSo; rw [ez_62]
                          refine lv_if_ge (tgt := 187) hx hb dX5_isResolved_182 (by decide) (fun c_63 => ?_) (fun c_63 => ?_)
                          · skip
                            have c_63' : z_62.toInt ≥ 0 := jb_ge (rfl) ((by decide)) c_63
                            obtain ⟨z_64, ez_64⟩ : ∃ y : Int32, y = v5_7 + 1 := ⟨_, rfl⟩
                            refine lv_iinc (v := z_64) (lv' := [(5, .int z_64), (6, .int z_18), (0, .ref r0), (1, .ref r1), (2, .ref r2), (3, .ref nodes_6), (4, .int v4_14)]) hx hb dX5_isResolved_187 hl (k := 6) rfl (by rw [ez_64]; rfl) (by decide) rfl (fun ls hl => ?_)
                            have hz_64 : z_64.toInt = v5_7.toInt + 1 := by rw [ez_64]; exact jb_iadd2 (rfl) (by decide) (by omega)
                            refine lv_goto (tgt := 14) hx hb dX5_isResolved_190 (by decide) ?_
                            exact L14 v4_14 z_64 _ _ (hh_60.sub (L1 := [(syntax_3, 12, 9, .ref nodes_6), (r0, 7, 1, .ref syntax_3)]) [2, 3] rfl (M1 := []) [] rfl (I1 := []) [] rfl) (by first | omega | (refine ⟨?_, ?_, ?_, ?_⟩ <;> (first | omega | rfl | assumption | decide | exact Or.inl rfl | exact Or.inr rfl | (simp only; omega)))) (by omega) _ (lv_sub hl [2, 3, 4, 5, 6, 0] rfl)
                          · skip
                            have c_63' : z_62.toInt < 0 := jb_ge_n (rfl) ((by decide)) c_63
                            refine lv_iconst (v := 0) hx hb dX5_isResolved_185 (by decide) ?_
                            rw [hQ]
                            exact W.zret (v := 0) hx hb hr (jb_nz (Or.inl rfl)) (fun t ht hW => ⟨⟨0, (), rfl, ⟨(Or.inl rfl), trivial⟩, hh_60.rt (M1 := []) [] rfl ht⟩, by rw [ht]; try exact hh_60.1.1, fun q h9 hq => by rw [ht]; try exact hh_60.1.2.1 q h9 hq⟩) hh_60.1.2.2 dX5_isResolved_186
                      · skip
                        have c_54' : r_53.toInt < 0 := jb_ge_n (rfl) ((by decide)) c_54
                        refine lv_iconst (v := 0) hx hb dX5_isResolved_153 (by decide) ?_
                        rw [hQ]
                        exact W.zret (v := 0) hx hb hr (jb_nz (Or.inl rfl)) (fun t ht hW => ⟨⟨0, (), rfl, ⟨(Or.inl rfl), trivial⟩, hh_52.rt (M1 := []) [] rfl ht⟩, by rw [ht]; try exact hh_52.1.1, fun q h9 hq => by rw [ht]; try exact hh_52.1.2.1 q h9 hq⟩) hh_52.1.2.2 dX5_isResolved_154
                  · skip
                    have c_36' : z_18.toInt = 6 := jb_ne_n (rfl) ((by decide)) c_36
                    refine lv_iload hx hb dX5_isResolved_80 (lv_at hl 5 rfl) ?_
                    refine lv_aload_n hx hb dX5_isResolved_82 rfl (lv_at hl 1 rfl) ?_
                    obtain ⟨v_65, hv_65, hh_66⟩ := hh_16.pin (C := RX5) (T := TX5) (N := 11) hB7 rfl (by decide) hg_r0 (i := 3) (by decide) rfl
                    clear hh_16
                    obtain ⟨scopeNames_67, rfl, hg_scopeNames_67⟩ := hv_65
                    refine j7_read hx hb hown hK (C := RX5) (T := TX5) (N := 11) rfl hly_7_3 hlk_34 (hh_66.at 0 rfl) dX5_isResolved_83 ?_
                    refine j7_len hx hb hK hh_66 hB101 1 rfl (by decide) hg_scopeNames_67 (by omega) dX5_isResolved_86 (fun z_68 hz_68 => ?_)
                    refine lv_icmp_lt (tgt := 92) hx hb dX5_isResolved_87 (by decide) (fun c_69 => ?_) (fun c_69 => ?_)
                    · skip
                      have c_69' : v4_14.toInt < z_68.toInt := jb_lt (rfl) (rfl) c_69
                      refine lv_aload_n hx hb dX5_isResolved_92 rfl (lv_at hl 1 rfl) ?_
                      refine j7_read hx hb hown hK (C := RX5) (T := TX5) (N := 11) rfl hly_7_3 hlk_34 (hh_66.at 0 rfl) dX5_isResolved_93 ?_
                      refine lv_iload hx hb dX5_isResolved_96 (lv_at hl 5 rfl) ?_
                      refine lv_aload_n hx hb dX5_isResolved_98 rfl (lv_at hl 4 rfl) ?_
                      refine lv_iload hx hb dX5_isResolved_99 (lv_at hl 6 rfl) ?_
                      refine j7_ialdM hx hb hK hh_66 hB280 1 rfl (by decide) hg_nodes_6 (x := v5_7.toInt) (rfl) (by omega) (j := 0) rfl dX5_isResolved_101 (fun z_70 ez_70 (hz_70 : -1 ≤ z_70.toInt) => ?_)
                      have hqz_70 : z_70.toInt = jSo f_l3_16 (v5_7.toInt) := by unfold jSo; rw [ez_70]
                      refine lv_bipush (v := 15) hx hb dX5_isResolved_102 (by decide) ?_
                      refine lv_ishr hx hb dX5_isResolved_104 ?_
                      refine lv_topi (fun z_71 ez_71 => ?_)
                      have hz_71 : z_71.toInt = z_70.toInt / 2 ^ 15 := by rw [ez_71]; exact jb_ishr 15 (rfl) (by decide)
                      refine j7_iast hx hb hK hh_66 hB hB101 1 rfl (by decide) (by decide) rfl rfl rfl hg_scopeNames_67 (x := v4_14.toInt) (rfl) (by omega) (trivial) dX5_isResolved_105 (fun H_72 locs_72 hh_72 => ?_)
                      clear hh_66
                      refine lv_aload_n hx hb dX5_isResolved_106 rfl (lv_at hl 1 rfl) ?_
                      obtain ⟨v_73, hv_73, hh_74⟩ := hh_72.pin (C := RX5) (T := TX5) (N := 11) hB7 rfl (by decide) hg_r0 (i := 4) (by decide) rfl
                      clear hh_72
                      obtain ⟨scopeEnds_75, rfl, hg_scopeEnds_75⟩ := hv_73
                      refine j7_read hx hb hown hK (C := RX5) (T := TX5) (N := 11) rfl hly_7_4 hlk_38 (hh_74.at 0 rfl) dX5_isResolved_107 ?_
                      refine lv_iload hx hb dX5_isResolved_110 (lv_at hl 5 rfl) ?_
                      refine lv_aload_n hx hb dX5_isResolved_112 rfl (lv_at hl 4 rfl) ?_
                      refine lv_iload hx hb dX5_isResolved_113 (lv_at hl 6 rfl) ?_
                      refine lv_aload_n hx hb dX5_isResolved_115 rfl (lv_at hl 1 rfl) ?_
                      refine j7_read hx hb hown hK (C := RX5) (T := TX5) (N := 11) rfl hly_7_1 hlk_23 (hh_74.at 4 rfl) dX5_isResolved_116 ?_
                      refine j7_read hx hb hown hK (C := RX10) (T := TX10) (N := 11) rfl hly_12_10 hlk_114 (hh_74.at 2 rfl) dX5_isResolved_119 ?_
                      refine va_calli (A0 := jA base) (H0 := s.heap) (va_runSN (As := [.ref nodes_6, .int v5_7, .int nodeCount_10]) (rest := [.int v4_14, .ref scopeEnds_75]) ⟨hx, hb, hml, hown, hts⟩ (uX11_endOfB l dC dI ca base B hB hAp hB280 G0 H_72 nodes_6 v5_7 nodeCount_10 3000) ⟨va_cnB 3 hts (jgW (jWr_32 _ (List.mem_of_getElem? (i := 4) rfl))) rfl rfl rfl (hG.2.2.1 RX5 183 yX11_endOf "ProofServer" (List.mem_of_getElem? (i := 1460) (by decide +kernel))) (htw (.initialized RX11) (jWr_1 _ (List.mem_of_getElem? (i := 2) rfl))) (by decide +kernel) ⟨by rw [← hR]; exact Nat.le_of_ble_eq_true rfl, by rw [← hR]; exact Nat.le_of_ble_eq_true rfl⟩, htw (.static yX11_endOf) (jWr_32 _ (List.mem_of_getElem? (i := 3) rfl)), trivial⟩ ⟨fun a U g mk q => by obtain ⟨q0, q1, q2, qK, q10, q11, q12⟩ := q; exact ⟨q0, q1, q2, jG.calling g mk a qK, q10, q11, q12⟩, fun U hU hW => ⟨rfl, hU, hh_74.2.1, hG.step hW hU hh_74.1, hg_nodes_6, jP.nil, by first | omega | (refine ⟨?_, ?_, ?_⟩ <;> (first | omega | rfl | assumption | decide | exact Or.inl rfl | exact Or.inr rfl | (simp only; omega)))⟩⟩ rfl rfl hl.1 rfl (lv_room (Nat.le_of_ble_eq_true rfl)) dX5_isResolved_122 ⟨Nat.zero_le _, Nat.zero_le _⟩) hh_74.1 (fun q _ h => h) (fun q h => h) (fun r_77 u_76 t_76 H_76 locs_76 ht_76 hvm_76 hr_77 hb_76 hz_76 hk_76 hS_76 => ?_)
                      rw [ht_76] at hb_76
                      obtain ⟨hb_761, hb_762, hb_763, hb_764, hb_765⟩ := hb_76
                      have hh_76 : jSt (dC, dI) B base G0 G0 EX5_isResolved s.heap 0 0 [(r0, 7, 4, .ref scopeEnds_75), (r0, 7, 3, .ref scopeNames_67), (syntax_3, 12, 10, .int nodeCount_10), (syntax_3, 12, 9, .ref nodes_6), (r0, 7, 1, .ref syntax_3)] [(nodes_6, 280, 3000, ca 1, f_l3_16)] [] H_76 locs_76 := ((hh_74.call hb_761 hb_762 hb_763 hb_764 hS_76 rfl (L1 := [(r0, 7, 4, .ref scopeEnds_75), (r0, 7, 3, .ref scopeNames_67), (syntax_3, 12, 10, .int nodeCount_10), (syntax_3, 12, 9, .ref nodes_6), (r0, 7, 1, .ref syntax_3)]) [0, 1, 2, 3, 4] rfl rfl (M1 := [(nodes_6, 280, 3000, ca 1, f_l3_16)]) [0] rfl rfl (I1 := []) [] rfl rfl).more hb_765)
                      clear hh_74 ht_76 hvm_76 hz_76 hk_76 hS_76 hb_761 hb_762 hb_763 hb_764 hb_765
                      obtain ⟨hr_77_0, hr_77_1⟩ := hr_77
                      refine j7_iast hx hb hK hh_76 hB hB101 1 rfl (by decide) (by decide) rfl rfl rfl hg_scopeEnds_75 (x := v4_14.toInt) (rfl) (by omega) (trivial) dX5_isResolved_125 (fun H_78 locs_78 hh_78 => ?_)
                      clear hh_76
                      obtain ⟨z_79, ez_79⟩ : ∃ y : Int32, y = v4_14 + 1 := ⟨_, rfl⟩
                      refine lv_iinc (v := z_79) (lv' := [(4, .int z_79), (6, .int z_18), (0, .ref r0), (1, .ref r1), (2, .ref r2), (3, .ref nodes_6), (5, .int v5_7)]) hx hb dX5_isResolved_126 hl (k := 5) rfl (by rw [ez_79]; rfl) (by decide) rfl (fun ls hl => ?_)
                      have hz_79 : z_79.toInt = v4_14.toInt + 1 := by rw [ez_79]; exact jb_iadd2 (rfl) (by decide) (by omega)
                      refine lv_goto (tgt := 187) hx hb dX5_isResolved_129 (by decide) ?_
                      obtain ⟨z_80, ez_80⟩ : ∃ y : Int32, y = v5_7 + 1 := ⟨_, rfl⟩
                      refine lv_iinc (v := z_80) (lv' := [(5, .int z_80), (4, .int z_79), (6, .int z_18), (0, .ref r0), (1, .ref r1), (2, .ref r2), (3, .ref nodes_6)]) hx hb dX5_isResolved_187 hl (k := 6) rfl (by rw [ez_80]; rfl) (by decide) rfl (fun ls hl => ?_)
                      have hz_80 : z_80.toInt = v5_7.toInt + 1 := by rw [ez_80]; exact jb_iadd2 (rfl) (by decide) (by omega)
                      refine lv_goto (tgt := 14) hx hb dX5_isResolved_190 (by decide) ?_
                      exact L14 z_79 z_80 _ _ (hh_78.sub (L1 := [(syntax_3, 12, 9, .ref nodes_6), (r0, 7, 1, .ref syntax_3)]) [3, 4] rfl (M1 := []) [] rfl (I1 := []) [] rfl) (by first | omega | (refine ⟨?_, ?_, ?_, ?_⟩ <;> (first | omega | rfl | assumption | decide | exact Or.inl rfl | exact Or.inr rfl | (simp only; omega)))) (by omega) _ (lv_sub hl [3, 4, 5, 6, 1, 0] rfl)
                    · skip
                      have c_69' : v4_14.toInt ≥ z_68.toInt := jb_lt_n (rfl) (rfl) c_69
                      refine lv_iconst (v := 0) hx hb dX5_isResolved_90 (by decide) ?_
                      rw [hQ]
                      exact W.zret (v := 0) hx hb hr (jb_nz (Or.inl rfl)) (fun t ht hW => ⟨⟨0, (), rfl, ⟨(Or.inl rfl), trivial⟩, hh_66.rt (M1 := []) [] rfl ht⟩, by rw [ht]; try exact hh_66.1.1, fun q h9 hq => by rw [ht]; try exact hh_66.1.2.1 q h9 hq⟩) hh_66.1.2.2 dX5_isResolved_91
              refine lv_if_le (tgt := 58) hx hb dX5_isResolved_35 (by decide) (fun c_81 => ?_) (fun c_81 => ?_)
              · skip
                have c_81' : v4_14.toInt ≤ 0 := jb_le (rfl) ((by decide)) c_81
                exact C58  _ _ hh_14 (trivial) _ (lv_sub hl [0, 1, 2, 3, 4, 5] rfl)
              · skip
                have c_81' : v4_14.toInt > 0 := jb_le_n (rfl) ((by decide)) c_81
                refine lv_aload_n hx hb dX5_isResolved_38 rfl (lv_at hl 0 rfl) ?_
                obtain ⟨v_82, hv_82, hh_83⟩ := hh_14.pin (C := RX5) (T := TX5) (N := 11) hB7 rfl (by decide) hg_r0 (i := 4) (by decide) rfl
                clear hh_14
                obtain ⟨scopeEnds_84, rfl, hg_scopeEnds_84⟩ := hv_82
                refine j7_read hx hb hown hK (C := RX5) (T := TX5) (N := 11) rfl hly_7_4 hlk_38 (hh_83.at 0 rfl) dX5_isResolved_39 ?_
                refine lv_iload hx hb dX5_isResolved_42 (lv_at hl 4 rfl) ?_
                refine lv_iconst (v := 1) hx hb dX5_isResolved_44 (by decide) ?_
                refine lv_isub hx hb dX5_isResolved_45 ?_
                refine lv_topi (fun z_85 ez_85 => ?_)
                have hz_85 : z_85.toInt = v4_14.toInt - 1 := by rw [ez_85]; exact jb_isub2 (rfl) ((by decide)) (by omega)
                refine j7_iald hx hb hK hh_83 hB101 1 rfl (by decide) hg_scopeEnds_84 (x := z_85.toInt) (rfl) (by omega) dX5_isResolved_46 (fun z_86 (hz_86 : True) => ?_)
                refine lv_iload hx hb dX5_isResolved_47 (lv_at hl 5 rfl) ?_
                refine lv_icmp_gt (tgt := 58) hx hb dX5_isResolved_49 (by decide) (fun c_87 => ?_) (fun c_87 => ?_)
                · skip
                  have c_87' : z_86.toInt > v5_7.toInt := jb_gt (rfl) (rfl) c_87
                  exact C58  _ _ (hh_83.sub (L1 := [(syntax_3, 12, 10, .int nodeCount_10), (syntax_3, 12, 9, .ref nodes_6), (r0, 7, 1, .ref syntax_3)]) [1, 2, 3] rfl (M1 := []) [] rfl (I1 := []) [] rfl) (trivial) _ (lv_sub hl [0, 1, 2, 3, 4, 5] rfl)
                · skip
                  have c_87' : z_86.toInt ≤ v5_7.toInt := jb_gt_n (rfl) (rfl) c_87
                  obtain ⟨z_88, ez_88⟩ : ∃ y : Int32, y = v4_14 + (-1) := ⟨_, rfl⟩
                  refine lv_iinc (v := z_88) (lv' := [(4, .int z_88), (0, .ref r0), (1, .ref r1), (2, .ref r2), (3, .ref nodes_6), (5, .int v5_7)]) hx hb dX5_isResolved_52 hl (k := 4) rfl (by rw [ez_88]; rfl) (by decide) rfl (fun ls hl => ?_)
                  have hz_88 : z_88.toInt = v4_14.toInt + (-1) := by rw [ez_88]; exact jb_iadd2 (rfl) (by decide) (by omega)
                  refine lv_goto (tgt := 33) hx hb dX5_isResolved_55 (by decide) ?_
                  exact L33 z_88 _ _ (hh_83.sub (L1 := [(syntax_3, 12, 10, .int nodeCount_10), (syntax_3, 12, 9, .ref nodes_6), (r0, 7, 1, .ref syntax_3)]) [1, 2, 3] rfl (M1 := []) [] rfl (I1 := []) [] rfl) (by first | omega | (refine ⟨?_, ?_⟩ <;> (first | omega | rfl | assumption | decide | exact Or.inl rfl | exact Or.inr rfl | (simp only; omega)))) (by omega) _ (lv_sub hl [1, 2, 3, 4, 0, 5] rfl)
          exact L33 ((v4_7 : Int32).toInt : Int).toNat.succ v4_7 _ _ hh_9 (by first | omega | (refine ⟨?_, ?_⟩ <;> (first | omega | rfl | assumption | decide | exact Or.inl rfl | exact Or.inr rfl | (simp only; omega)))) (by omega) _ (lv_sub hl [0, 1, 2, 3, 4, 5] rfl)
  exact L14 (3000 - (0 : Int32).toInt : Int).toNat.succ 0 0 _ _ hh_5 (by first | omega | (refine ⟨?_, ?_, ?_, ?_⟩ <;> (first | omega | rfl | assumption | decide | exact Or.inl rfl | exact Or.inr rfl | (simp only; omega)))) (by omega) _ (lv_sub hl [3, 4, 5, 2, 1, 0] rfl)
set_option maxHeartbeats 4000000 in
set_option maxRecDepth 20000 in
theorem uX5_isResolvedZ (l : Launch) (dC : Nat → ClassId) (dI : Nat → Nat → Nat) (ca : Nat → ClassId) (base : Nat) (B : jF) (hB : jBok B) (hAp : jAp (dC, dI)) (hB5 : ∀ n G a H, B 5 n G a H ↔ jOb (dC, dI) 5 4 (F5 n G) a H) (hB7 : ∀ n G a H, B 7 n G a H ↔ jOb (dC, dI) 7 11 (F7 n G) a H) (hB11 : ∀ n G a H, B 11 n G a H ↔ jOb (dC, dI) 11 9 (F11 n G) a H) (hB12 : ∀ n G a H, B 12 n G a H ↔ jOb (dC, dI) 12 11 (F12b n G) a H) (hB101 : ∀ n G a H, B 101 n G a H ↔ jAr (dC, dI) (ca 1) (fun j z => True) n a H) (hB280 : ∀ n G a H, B 280 n G a H ↔ jAr (dC, dI) (ca 1) (fun j z => -1 ≤ z.toInt) n a H) (G0 : jT) (H0 : Heap) (r0 : Nat) (r1 : Nat) : Met l yX5_isResolved (jw yX5_isResolved cX5_isResolved 7 (some .boolean)) ({ frames := 2, cells := 0, slots := 0, locals := 49 }) (va_Pc [.ref r0, .ref r1, .null] (fun U => U.heap = H0 ∧ jX B base G0 [] H0 ∧ jG dC dI ca base U ∧ G0 r0 = some (7, 0) ∧ G0 r1 = some (11, 0) ∧ jP (dC, dI) G0 H0 [] ∧ True)) (va_Qi (S := Unit) (fun r u => (r = 0 ∨ r = 1) ∧ (True)) (fun u t => jRt (dC, dI) B base G0 EX5_isResolvedZ H0 [] t.heap) (jA base)) 0 0 (jA base) := by
  refine Met.ofW (cc := cX5_isResolved) (maxL := 7) (ret := (some .boolean)) (by decide) rfl ?_
  intro p e s m args below meth c s₁ Bd hml hv
  obtain ⟨rfl, hH0, hX, hG, hg_r0, hg_r1, hP0, hp0⟩ := hv
  have hK := hG.1
  have hx := Bd.exec
  have hb := Bd.bytes
  have hr := Bd.returns
  have hts := atoms_spec (ws := (jw yX5_isResolved cX5_isResolved 7 (some .boolean))) Bd.pre
  have htw : ∀ w ∈ jWl, w.before _ s = true := fun w h => hts w (List.mem_cons_of_mem _ h)
  have hown : s.vm.findClass RX5 = some m.cls := findClass_of_methodNamed Bd.named
  have hlocks := Bd.notSynchronized
  obtain ⟨Q, hQ⟩ : ∃ Q, Q = MQ below (va_Qi (S := Unit) (fun r u => (r = 0 ∨ r = 1) ∧ (True)) (fun u t => jRt (dC, dI) B base G0 EX5_isResolvedZ H0 [] t.heap) (jA base)) ([.ref r0, .ref r1, .null] : List Value).toArray s 0 0 (jA base) := ⟨_, rfl⟩
  rw [← hQ]
  have hl := lv_entry ([.ref r0, .ref r1, .null]) (n := 7) (Nat.le_of_ble_eq_true rfl)
  rw [lg_entry_eq]
  generalize (lg_sl ([.ref r0, .ref r1, .null]) ++ List.replicate (7 - (lg_sl ([.ref r0, .ref r1, .null])).length) Slot.unset).toArray = ls at hl ⊢
  have hl : lv_has ls 7 [(0, .ref r0), (1, .ref r1), (2, .null)] := hl
  generalize hR : (headSpec (jw yX5_isResolved cX5_isResolved 7 (some .boolean)) ({ frames := 2, cells := 0, slots := 0, locals := 49 })).room = R
  subst hH0
  have hh : jSt (dC, dI) B base G0 G0 EX5_isResolvedZ s.heap 0 0 [] [] [] s.heap [] := jSt.start hX hP0 jMc.nil jIs.nil
  clear hX hP0
  have hk0 : (0 : Int32).toInt = 0 := by decide
  have hk1 : (1 : Int32).toInt = 1 := by decide
  have hk5 : (5 : Int32).toInt = 5 := by decide
  have hk6 : (6 : Int32).toInt = 6 := by decide
  have hk7 : (7 : Int32).toInt = 7 := by decide
  have hk8 : (8 : Int32).toInt = 8 := by decide
  have hk15 : (15 : Int32).toInt = 15 := by decide
  have hly_7_1 := htw (u_lay RX5 TX5 1) (jWc_wsX50 _ (u_in_lay (by decide)))
  have hly_7_3 := htw (u_lay RX5 TX5 3) (jWc_wsX50 _ (u_in_lay (by decide)))
  have hly_7_4 := htw (u_lay RX5 TX5 4) (jWc_wsX50 _ (u_in_lay (by decide)))
  have hly_11_3 := htw (u_lay RX9 TX9 3) (jWc_wsX90 _ (u_in_lay (by decide)))
  have hly_12_9 := htw (u_lay RX10 TX10 9) (jWc_wsX100 _ (u_in_lay (by decide)))
  have hly_12_10 := htw (u_lay RX10 TX10 10) (jWc_wsX100 _ (u_in_lay (by decide)))
  have hlk_23 := (htw (.fieldLink RX5 23 "ProofServer$Kernel" "syntax" "LProofServer$Syntax;") (jWr_4 _ (List.mem_of_getElem? (i := 15) rfl)))
  have hlk_121 := (htw (.fieldLink RX5 121 "ProofServer$Syntax" "nodes" "[I") (jWr_82 _ (List.mem_of_getElem? (i := 7) rfl)))
  have hlk_114 := (htw (.fieldLink RX5 114 "ProofServer$Syntax" "nodeCount" "I") (jWr_82 _ (List.mem_of_getElem? (i := 5) rfl)))
  have hlk_38 := (htw (.fieldLink RX5 38 "ProofServer$Kernel" "scopeEnds" "[I") (jWr_4 _ (List.mem_of_getElem? (i := 21) rfl)))
  have hlk_34 := (htw (.fieldLink RX5 34 "ProofServer$Kernel" "scopeNames" "[I") (jWr_4 _ (List.mem_of_getElem? (i := 20) rfl)))
  have hlk_100 := (htw (.fieldLink RX5 100 "ProofServer$State" "symbols" "[I") (jWr_81 _ (List.mem_of_getElem? (i := 9) rfl)))
  refine lv_aload_n hx hb dX5_isResolved_0 rfl (lv_at hl 0 rfl) ?_
  obtain ⟨v_1, hv_1, hh_2⟩ := hh.pin (C := RX5) (T := TX5) (N := 11) hB7 rfl (by decide) hg_r0 (i := 1) (by decide) rfl
  clear hh
  obtain ⟨syntax_3, rfl, hg_syntax_3⟩ := hv_1
  refine j7_read hx hb hown hK (C := RX5) (T := TX5) (N := 11) rfl hly_7_1 hlk_23 (hh_2.at 0 rfl) dX5_isResolved_1 ?_
  obtain ⟨v_4, hv_4, hh_5⟩ := hh_2.pin (C := RX10) (T := TX10) (N := 11) hB12 rfl (by decide) hg_syntax_3 (i := 9) (by decide) rfl
  clear hh_2
  obtain ⟨nodes_6, rfl, hg_nodes_6⟩ := hv_4
  refine j7_read hx hb hown hK (C := RX10) (T := TX10) (N := 11) rfl hly_12_9 hlk_121 (hh_5.at 0 rfl) dX5_isResolved_4 ?_
  refine lv_astore_n (lv' := [(3, .ref nodes_6), (0, .ref r0), (1, .ref r1), (2, .null)]) hx hb dX5_isResolved_7 rfl hl (by decide) rfl (fun ls hl => ?_)
  refine lv_iconst (v := 0) hx hb dX5_isResolved_8 (by decide) ?_
  refine lv_istore (lv' := [(4, .int 0), (3, .ref nodes_6), (0, .ref r0), (1, .ref r1), (2, .null)]) hx hb dX5_isResolved_9 hl (by decide) rfl (fun ls hl => ?_)
  refine lv_iconst (v := 0) hx hb dX5_isResolved_11 (by decide) ?_
  refine lv_istore (lv' := [(5, .int 0), (4, .int 0), (3, .ref nodes_6), (0, .ref r0), (1, .ref r1), (2, .null)]) hx hb dX5_isResolved_12 hl (by decide) rfl (fun ls hl => ?_)
  have L14 : ∀ (N : Nat) (v4_7 : Int32) (v5_7 : Int32) (H_7 : Heap) (locs_7 : List Loc), jSt (dC, dI) B base G0 G0 EX5_isResolvedZ s.heap 0 0 [(syntax_3, 12, 9, .ref nodes_6), (r0, 7, 1, .ref syntax_3)] [] [] H_7 locs_7 → (0 ≤ v5_7.toInt ∧ v5_7.toInt ≤ 3000 ∧ 0 ≤ v4_7.toInt ∧ v4_7.toInt ≤ 13) → (3000 - v5_7.toInt : Int) < N → ∀ ls : Array Slot, lv_has ls 7 [(0, .ref r0), (1, .ref r1), (2, .null), (3, .ref nodes_6), (4, .int v4_7), (5, .int v5_7)] → W p l e R s m ([.ref r0, .ref r1, .null] : List Value).toArray below meth c H_7 locs_7 0 0 Q (F0 m 14 ls []) := by
    intro N
    induction N with
    | zero => intro v4_7 v5_7 H_7 locs_7 hh_7  hi_7 hm; exact absurd hm (by omega)
    | succ N L14 =>
      intro v4_7 v5_7 H_7 locs_7 hh_7  hi_7 hm_7 ls hl
      obtain ⟨hi_7_0, hi_7_1, hi_7_2, hi_7_3⟩ := hi_7
      refine lv_iload hx hb dX5_isResolved_14 (lv_at hl 5 rfl) ?_
      refine lv_aload_n hx hb dX5_isResolved_16 rfl (lv_at hl 0 rfl) ?_
      refine j7_read hx hb hown hK (C := RX5) (T := TX5) (N := 11) rfl hly_7_1 hlk_23 (hh_7.at 1 rfl) dX5_isResolved_17 ?_
      obtain ⟨v_8, hv_8, hh_9⟩ := hh_7.pin (C := RX10) (T := TX10) (N := 11) hB12 rfl (by decide) hg_syntax_3 (i := 10) (by decide) rfl
      clear hh_7
      obtain ⟨nodeCount_10, rfl, hlonodeCount_10, hhinodeCount_10⟩ := hv_8
      refine j7_read hx hb hown hK (C := RX10) (T := TX10) (N := 11) rfl hly_12_10 hlk_114 (hh_9.at 0 rfl) dX5_isResolved_20 ?_
      refine lv_icmp_ge (tgt := 193) hx hb dX5_isResolved_23 (by decide) (fun c_11 => ?_) (fun c_11 => ?_)
      · skip
        have c_11' : v5_7.toInt ≥ nodeCount_10.toInt := jb_ge (rfl) (rfl) c_11
        refine lv_iconst (v := 1) hx hb dX5_isResolved_193 (by decide) ?_
        rw [hQ]
        exact W.zret (v := 1) hx hb hr (jb_nz (Or.inr rfl)) (fun t ht hW => ⟨⟨1, (), rfl, ⟨(Or.inr rfl), trivial⟩, hh_9.rt (M1 := []) [] rfl ht⟩, by rw [ht]; try exact hh_9.1.1, fun q h9 hq => by rw [ht]; try exact hh_9.1.2.1 q h9 hq⟩) hh_9.1.2.2 dX5_isResolved_194
      · skip
        have c_11' : v5_7.toInt < nodeCount_10.toInt := jb_ge_n (rfl) (rfl) c_11
        refine lv_iload hx hb dX5_isResolved_26 (lv_at hl 5 rfl) ?_
        refine lv_aload_n hx hb dX5_isResolved_28 rfl (lv_at hl 3 rfl) ?_
        refine j7_len hx hb hK hh_9 hB280 1 rfl (by decide) hg_nodes_6 (by omega) dX5_isResolved_29 (fun z_12 hz_12 => ?_)
        refine lv_icmp_ge (tgt := 193) hx hb dX5_isResolved_30 (by decide) (fun c_13 => ?_) (fun c_13 => ?_)
        · skip
          have c_13' : v5_7.toInt ≥ z_12.toInt := jb_ge (rfl) (rfl) c_13
          refine lv_iconst (v := 1) hx hb dX5_isResolved_193 (by decide) ?_
          rw [hQ]
          exact W.zret (v := 1) hx hb hr (jb_nz (Or.inr rfl)) (fun t ht hW => ⟨⟨1, (), rfl, ⟨(Or.inr rfl), trivial⟩, hh_9.rt (M1 := []) [] rfl ht⟩, by rw [ht]; try exact hh_9.1.1, fun q h9 hq => by rw [ht]; try exact hh_9.1.2.1 q h9 hq⟩) hh_9.1.2.2 dX5_isResolved_194
        · skip
          have c_13' : v5_7.toInt < z_12.toInt := jb_ge_n (rfl) (rfl) c_13
          have L33 : ∀ (N : Nat) (v4_14 : Int32) (H_14 : Heap) (locs_14 : List Loc), jSt (dC, dI) B base G0 G0 EX5_isResolvedZ s.heap 0 0 [(syntax_3, 12, 10, .int nodeCount_10), (syntax_3, 12, 9, .ref nodes_6), (r0, 7, 1, .ref syntax_3)] [] [] H_14 locs_14 → (0 ≤ v4_14.toInt ∧ v4_14.toInt ≤ 13) → (v4_14.toInt : Int) < N → ∀ ls : Array Slot, lv_has ls 7 [(0, .ref r0), (1, .ref r1), (2, .null), (3, .ref nodes_6), (4, .int v4_14), (5, .int v5_7)] → W p l e R s m ([.ref r0, .ref r1, .null] : List Value).toArray below meth c H_14 locs_14 0 0 Q (F0 m 33 ls []) := by
            intro N
            induction N with
            | zero => intro v4_14 H_14 locs_14 hh_14  hi_14 hm; exact absurd hm (by omega)
            | succ N L33 =>
              intro v4_14 H_14 locs_14 hh_14  hi_14 hm_14 ls hl
              obtain ⟨hi_14_0, hi_14_1⟩ := hi_14
              refine lv_iload hx hb dX5_isResolved_33 (lv_at hl 4 rfl) ?_
              have C58 : ∀ (H_15 : Heap) (locs_15 : List Loc), jSt (dC, dI) B base G0 G0 EX5_isResolvedZ s.heap 0 0 [(syntax_3, 12, 10, .int nodeCount_10), (syntax_3, 12, 9, .ref nodes_6), (r0, 7, 1, .ref syntax_3)] [] [] H_15 locs_15 → (True) → ∀ ls : Array Slot, lv_has ls 7 [(0, .ref r0), (1, .ref r1), (2, .null), (3, .ref nodes_6), (4, .int v4_14), (5, .int v5_7)] → W p l e R s m ([.ref r0, .ref r1, .null] : List Value).toArray below meth c H_15 locs_15 0 0 Q (F0 m 58 ls []) := by
                intro  H_15 locs_15 hh_15  hi_15 ls hl
                obtain ⟨f_l3_16, hh_16⟩ := hh_15.cpin hB280 (by decide) (by decide) hg_nodes_6
                clear hh_15
                refine lv_aload_n hx hb dX5_isResolved_58 rfl (lv_at hl 3 rfl) ?_
                refine lv_iload hx hb dX5_isResolved_59 (lv_at hl 5 rfl) ?_
                refine j7_ialdM hx hb hK hh_16 hB280 1 rfl (by decide) hg_nodes_6 (x := v5_7.toInt) (rfl) (by omega) (j := 0) rfl dX5_isResolved_61 (fun z_17 ez_17 (hz_17 : -1 ≤ z_17.toInt) => ?_)
                have hqz_17 : z_17.toInt = jSo f_l3_16 (v5_7.toInt) := by unfold jSo; rw [ez_17]
                refine lv_bipush (v := 15) hx hb dX5_isResolved_62 (by decide) ?_
                refine lv_iand hx hb dX5_isResolved_64 ?_
                refine lv_topi (fun z_18 ez_18 => ?_)
                have hz_18 : 0 ≤ z_18.toInt ∧ z_18.toInt ≤ 15 := by rw [ez_18]; exact jb_and z_17 (m := 15) (k := 4) (by decide) (by decide)
                have hbz_18 : z_18.toInt = z_17.toInt % 16 := by rw [ez_18, jb_and15]
                refine lv_istore (lv' := [(6, .int z_18), (0, .ref r0), (1, .ref r1), (2, .null), (3, .ref nodes_6), (4, .int v4_14), (5, .int v5_7)]) hx hb dX5_isResolved_65 hl (by decide) rfl (fun ls hl => ?_)
                refine lv_iload hx hb dX5_isResolved_67 (lv_at hl 0 rfl) ?_
                refine lv_iconst (v := 5) hx hb dX5_isResolved_69 (by decide) ?_
                refine lv_icmp_eq (tgt := 80) hx hb dX5_isResolved_70 (by decide) (fun c_19 => ?_) (fun c_19 => ?_)
                · skip
                  have c_19' : z_18.toInt = 5 := jb_eq (rfl) ((by decide)) c_19
                  refine lv_iload hx hb dX5_isResolved_80 (lv_at hl 5 rfl) ?_
                  refine lv_aload_n hx hb dX5_isResolved_82 rfl (lv_at hl 1 rfl) ?_
                  obtain ⟨v_20, hv_20, hh_21⟩ := hh_16.pin (C := RX5) (T := TX5) (N := 11) hB7 rfl (by decide) hg_r0 (i := 3) (by decide) rfl
                  clear hh_16
                  obtain ⟨scopeNames_22, rfl, hg_scopeNames_22⟩ := hv_20
                  refine j7_read hx hb hown hK (C := RX5) (T := TX5) (N := 11) rfl hly_7_3 hlk_34 (hh_21.at 0 rfl) dX5_isResolved_83 ?_
                  refine j7_len hx hb hK hh_21 hB101 1 rfl (by decide) hg_scopeNames_22 (by omega) dX5_isResolved_86 (fun z_23 hz_23 => ?_)
                  refine lv_icmp_lt (tgt := 92) hx hb dX5_isResolved_87 (by decide) (fun c_24 => ?_) (fun c_24 => ?_)
                  · skip
                    have c_24' : v4_14.toInt < z_23.toInt := jb_lt (rfl) (rfl) c_24
                    refine lv_aload_n hx hb dX5_isResolved_92 rfl (lv_at hl 1 rfl) ?_
                    refine j7_read hx hb hown hK (C := RX5) (T := TX5) (N := 11) rfl hly_7_3 hlk_34 (hh_21.at 0 rfl) dX5_isResolved_93 ?_
                    refine lv_iload hx hb dX5_isResolved_96 (lv_at hl 5 rfl) ?_
                    refine lv_aload_n hx hb dX5_isResolved_98 rfl (lv_at hl 4 rfl) ?_
                    refine lv_iload hx hb dX5_isResolved_99 (lv_at hl 6 rfl) ?_
                    refine j7_ialdM hx hb hK hh_21 hB280 1 rfl (by decide) hg_nodes_6 (x := v5_7.toInt) (rfl) (by omega) (j := 0) rfl dX5_isResolved_101 (fun z_25 ez_25 (hz_25 : -1 ≤ z_25.toInt) => ?_)
                    have hqz_25 : z_25.toInt = jSo f_l3_16 (v5_7.toInt) := by unfold jSo; rw [ez_25]
                    refine lv_bipush (v := 15) hx hb dX5_isResolved_102 (by decide) ?_
                    refine lv_ishr hx hb dX5_isResolved_104 ?_
                    refine lv_topi (fun z_26 ez_26 => ?_)
                    have hz_26 : z_26.toInt = z_25.toInt / 2 ^ 15 := by rw [ez_26]; exact jb_ishr 15 (rfl) (by decide)
                    refine j7_iast hx hb hK hh_21 hB hB101 1 rfl (by decide) (by decide) rfl rfl rfl hg_scopeNames_22 (x := v4_14.toInt) (rfl) (by omega) (trivial) dX5_isResolved_105 (fun H_27 locs_27 hh_27 => ?_)
                    clear hh_21
                    refine lv_aload_n hx hb dX5_isResolved_106 rfl (lv_at hl 1 rfl) ?_
                    obtain ⟨v_28, hv_28, hh_29⟩ := hh_27.pin (C := RX5) (T := TX5) (N := 11) hB7 rfl (by decide) hg_r0 (i := 4) (by decide) rfl
                    clear hh_27
                    obtain ⟨scopeEnds_30, rfl, hg_scopeEnds_30⟩ := hv_28
                    refine j7_read hx hb hown hK (C := RX5) (T := TX5) (N := 11) rfl hly_7_4 hlk_38 (hh_29.at 0 rfl) dX5_isResolved_107 ?_
                    refine lv_iload hx hb dX5_isResolved_110 (lv_at hl 5 rfl) ?_
                    refine lv_aload_n hx hb dX5_isResolved_112 rfl (lv_at hl 4 rfl) ?_
                    refine lv_iload hx hb dX5_isResolved_113 (lv_at hl 6 rfl) ?_
                    refine lv_aload_n hx hb dX5_isResolved_115 rfl (lv_at hl 1 rfl) ?_
                    refine j7_read hx hb hown hK (C := RX5) (T := TX5) (N := 11) rfl hly_7_1 hlk_23 (hh_29.at 4 rfl) dX5_isResolved_116 ?_
                    refine j7_read hx hb hown hK (C := RX10) (T := TX10) (N := 11) rfl hly_12_10 hlk_114 (hh_29.at 2 rfl) dX5_isResolved_119 ?_
                    refine va_calli (A0 := jA base) (H0 := s.heap) (va_runSN (As := [.ref nodes_6, .int v5_7, .int nodeCount_10]) (rest := [.int v4_14, .ref scopeEnds_30]) ⟨hx, hb, hml, hown, hts⟩ (uX11_endOfB l dC dI ca base B hB hAp hB280 G0 H_27 nodes_6 v5_7 nodeCount_10 3000) ⟨va_cnB 3 hts (jgW (jWr_32 _ (List.mem_of_getElem? (i := 4) rfl))) rfl rfl rfl (hG.2.2.1 RX5 183 yX11_endOf "ProofServer" (List.mem_of_getElem? (i := 1460) (by decide +kernel))) (htw (.initialized RX11) (jWr_1 _ (List.mem_of_getElem? (i := 2) rfl))) (by decide +kernel) ⟨by rw [← hR]; exact Nat.le_of_ble_eq_true rfl, by rw [← hR]; exact Nat.le_of_ble_eq_true rfl⟩, htw (.static yX11_endOf) (jWr_32 _ (List.mem_of_getElem? (i := 3) rfl)), trivial⟩ ⟨fun a U g mk q => by obtain ⟨q0, q1, q2, qK, q10, q11, q12⟩ := q; exact ⟨q0, q1, q2, jG.calling g mk a qK, q10, q11, q12⟩, fun U hU hW => ⟨rfl, hU, hh_29.2.1, hG.step hW hU hh_29.1, hg_nodes_6, jP.nil, by first | omega | (refine ⟨?_, ?_, ?_⟩ <;> (first | omega | rfl | assumption | decide | exact Or.inl rfl | exact Or.inr rfl | (simp only; omega)))⟩⟩ rfl rfl hl.1 rfl (lv_room (Nat.le_of_ble_eq_true rfl)) dX5_isResolved_122 ⟨Nat.zero_le _, Nat.zero_le _⟩) hh_29.1 (fun q _ h => h) (fun q h => h) (fun r_32 u_31 t_31 H_31 locs_31 ht_31 hvm_31 hr_32 hb_31 hz_31 hk_31 hS_31 => ?_)
                    rw [ht_31] at hb_31
                    obtain ⟨hb_311, hb_312, hb_313, hb_314, hb_315⟩ := hb_31
                    have hh_31 : jSt (dC, dI) B base G0 G0 EX5_isResolvedZ s.heap 0 0 [(r0, 7, 4, .ref scopeEnds_30), (r0, 7, 3, .ref scopeNames_22), (syntax_3, 12, 10, .int nodeCount_10), (syntax_3, 12, 9, .ref nodes_6), (r0, 7, 1, .ref syntax_3)] [(nodes_6, 280, 3000, ca 1, f_l3_16)] [] H_31 locs_31 := ((hh_29.call hb_311 hb_312 hb_313 hb_314 hS_31 rfl (L1 := [(r0, 7, 4, .ref scopeEnds_30), (r0, 7, 3, .ref scopeNames_22), (syntax_3, 12, 10, .int nodeCount_10), (syntax_3, 12, 9, .ref nodes_6), (r0, 7, 1, .ref syntax_3)]) [0, 1, 2, 3, 4] rfl rfl (M1 := [(nodes_6, 280, 3000, ca 1, f_l3_16)]) [0] rfl rfl (I1 := []) [] rfl rfl).more hb_315)
                    clear hh_29 ht_31 hvm_31 hz_31 hk_31 hS_31 hb_311 hb_312 hb_313 hb_314 hb_315
                    obtain ⟨hr_32_0, hr_32_1⟩ := hr_32
                    refine j7_iast hx hb hK hh_31 hB hB101 1 rfl (by decide) (by decide) rfl rfl rfl hg_scopeEnds_30 (x := v4_14.toInt) (rfl) (by omega) (trivial) dX5_isResolved_125 (fun H_33 locs_33 hh_33 => ?_)
                    clear hh_31
                    obtain ⟨z_34, ez_34⟩ : ∃ y : Int32, y = v4_14 + 1 := ⟨_, rfl⟩
                    refine lv_iinc (v := z_34) (lv' := [(4, .int z_34), (6, .int z_18), (0, .ref r0), (1, .ref r1), (2, .null), (3, .ref nodes_6), (5, .int v5_7)]) hx hb dX5_isResolved_126 hl (k := 5) rfl (by rw [ez_34]; rfl) (by decide) rfl (fun ls hl => ?_)
                    have hz_34 : z_34.toInt = v4_14.toInt + 1 := by rw [ez_34]; exact jb_iadd2 (rfl) (by decide) (by omega)
                    refine lv_goto (tgt := 187) hx hb dX5_isResolved_129 (by decide) ?_
                    obtain ⟨z_35, ez_35⟩ : ∃ y : Int32, y = v5_7 + 1 := ⟨_, rfl⟩
                    refine lv_iinc (v := z_35) (lv' := [(5, .int z_35), (4, .int z_34), (6, .int z_18), (0, .ref r0), (1, .ref r1), (2, .null), (3, .ref nodes_6)]) hx hb dX5_isResolved_187 hl (k := 6) rfl (by rw [ez_35]; rfl) (by decide) rfl (fun ls hl => ?_)
                    have hz_35 : z_35.toInt = v5_7.toInt + 1 := by rw [ez_35]; exact jb_iadd2 (rfl) (by decide) (by omega)
                    refine lv_goto (tgt := 14) hx hb dX5_isResolved_190 (by decide) ?_
                    exact L14 z_34 z_35 _ _ (hh_33.sub (L1 := [(syntax_3, 12, 9, .ref nodes_6), (r0, 7, 1, .ref syntax_3)]) [3, 4] rfl (M1 := []) [] rfl (I1 := []) [] rfl) (by first | omega | (refine ⟨?_, ?_, ?_, ?_⟩ <;> (first | omega | rfl | assumption | decide | exact Or.inl rfl | exact Or.inr rfl | (simp only; omega)))) (by omega) _ (lv_sub hl [3, 4, 5, 6, 1, 0] rfl)
                  · skip
                    have c_24' : v4_14.toInt ≥ z_23.toInt := jb_lt_n (rfl) (rfl) c_24
                    refine lv_iconst (v := 0) hx hb dX5_isResolved_90 (by decide) ?_
                    rw [hQ]
                    exact W.zret (v := 0) hx hb hr (jb_nz (Or.inl rfl)) (fun t ht hW => ⟨⟨0, (), rfl, ⟨(Or.inl rfl), trivial⟩, hh_21.rt (M1 := []) [] rfl ht⟩, by rw [ht]; try exact hh_21.1.1, fun q h9 hq => by rw [ht]; try exact hh_21.1.2.1 q h9 hq⟩) hh_21.1.2.2 dX5_isResolved_91
                · skip
                  have c_19' : z_18.toInt ≠ 5 := jb_eq_n (rfl) ((by decide)) c_19
                  refine lv_iload hx hb dX5_isResolved_73 (lv_at hl 0 rfl) ?_
                  refine lv_bipush (v := 6) hx hb dX5_isResolved_75 (by decide) ?_
                  refine lv_icmp_ne (tgt := 132) hx hb dX5_isResolved_77 (by decide) (fun c_36 => ?_) (fun c_36 => ?_)
                  · skip
                    have c_36' : z_18.toInt ≠ 6 := jb_ne (rfl) ((by decide)) c_36
                    refine lv_iload hx hb dX5_isResolved_132 (lv_at hl 0 rfl) ?_
                    refine lv_bipush (v := 7) hx hb dX5_isResolved_134 (by decide) ?_
                    refine lv_icmp_ne (tgt := 155) hx hb dX5_isResolved_136 (by decide) (fun c_37 => ?_) (fun c_37 => ?_)
                    · skip
                      have c_37' : z_18.toInt ≠ 7 := jb_ne (rfl) ((by decide)) c_37
                      refine lv_iload hx hb dX5_isResolved_155 (lv_at hl 0 rfl) ?_
                      refine lv_bipush (v := 8) hx hb dX5_isResolved_157 (by decide) ?_
                      refine lv_icmp_ne (tgt := 187) hx hb dX5_isResolved_159 (by decide) (fun c_38 => ?_) (fun c_38 => ?_)
                      · skip
                        have c_38' : z_18.toInt ≠ 8 := jb_ne (rfl) ((by decide)) c_38
                        obtain ⟨z_39, ez_39⟩ : ∃ y : Int32, y = v5_7 + 1 := ⟨_, rfl⟩
                        refine lv_iinc (v := z_39) (lv' := [(5, .int z_39), (6, .int z_18), (0, .ref r0), (1, .ref r1), (2, .null), (3, .ref nodes_6), (4, .int v4_14)]) hx hb dX5_isResolved_187 hl (k := 6) rfl (by rw [ez_39]; rfl) (by decide) rfl (fun ls hl => ?_)
                        have hz_39 : z_39.toInt = v5_7.toInt + 1 := by rw [ez_39]; exact jb_iadd2 (rfl) (by decide) (by omega)
                        refine lv_goto (tgt := 14) hx hb dX5_isResolved_190 (by decide) ?_
                        exact L14 v4_14 z_39 _ _ (hh_16.sub (L1 := [(syntax_3, 12, 9, .ref nodes_6), (r0, 7, 1, .ref syntax_3)]) [1, 2] rfl (M1 := []) [] rfl (I1 := []) [] rfl) (by first | omega | (refine ⟨?_, ?_, ?_, ?_⟩ <;> (first | omega | rfl | assumption | decide | exact Or.inl rfl | exact Or.inr rfl | (simp only; omega)))) (by omega) _ (lv_sub hl [2, 3, 4, 5, 6, 0] rfl)
                      · skip
                        have c_38' : z_18.toInt = 8 := jb_ne_n (rfl) ((by decide)) c_38
                        refine lv_aload_n hx hb dX5_isResolved_162 rfl (lv_at hl 4 rfl) ?_
                        refine lv_iload hx hb dX5_isResolved_163 (lv_at hl 6 rfl) ?_
                        refine lv_aload_n hx hb dX5_isResolved_165 rfl (lv_at hl 1 rfl) ?_
                        refine lv_aload_n hx hb dX5_isResolved_166 rfl (lv_at hl 2 rfl) ?_
                        refine j7_nld_n hx hb dX5_isResolved_167 rfl (lv_at hl 3 rfl) ?_
                        refine lv_aload_n hx hb dX5_isResolved_168 rfl (lv_at hl 4 rfl) ?_
                        refine lv_iload hx hb dX5_isResolved_169 (lv_at hl 6 rfl) ?_
                        refine j7_ialdM hx hb hK hh_16 hB280 1 rfl (by decide) hg_nodes_6 (x := v5_7.toInt) (rfl) (by omega) (j := 0) rfl dX5_isResolved_171 (fun z_40 ez_40 (hz_40 : -1 ≤ z_40.toInt) => ?_)
                        have hqz_40 : z_40.toInt = jSo f_l3_16 (v5_7.toInt) := by unfold jSo; rw [ez_40]
                        refine lv_iload hx hb dX5_isResolved_172 (lv_at hl 5 rfl) ?_
                        refine va_calli (A0 := jA base) (H0 := s.heap) (va_runV (As := [.ref r1, .null, .int z_40, .int v4_14]) (rest := [.int v5_7, .ref nodes_6]) ⟨hx, hb, hml, hown, hts⟩ (uX5_resolvedZ l dC dI ca base B hB hAp hB5 hB7 hB11 hB101 G0 H_15 r0 r1 z_40 v4_14) (cwV 4 hts (jgV (jWr_82 _ (List.mem_of_getElem? (i := 17) rfl)) (jWr_82 _ (List.mem_of_getElem? (i := 18) rfl)) (jWr_82 _ (List.mem_of_getElem? (i := 19) rfl)) (jWr_2 _ (List.mem_of_getElem? (i := 4) rfl)) (jWr_82 _ (List.mem_of_getElem? (i := 20) rfl))) rfl rfl rfl (by decide +kernel) ⟨by rw [← hR]; exact Nat.le_of_ble_eq_true rfl, by rw [← hR]; exact Nat.le_of_ble_eq_true rfl⟩) ⟨fun a U g mk q => by obtain ⟨q0, q1, q2, qK, q10, q11, q12, q13⟩ := q; exact ⟨q0, q1, q2, jG.calling g mk a qK, q10, q11, q12, q13⟩, hh_16.recv (C := RX5) (T := TX5) (N := 11) hB7 rfl (by decide) hg_r0 hK, fun U hU hW => ⟨rfl, hU, hh_16.2.1, hG.step hW hU hh_16.1, hg_r0, hg_r1, jP.nil, by first | omega | (refine ⟨?_, ?_, ?_⟩ <;> (first | omega | rfl | assumption | decide | exact Or.inl rfl | exact Or.inr rfl | (simp only; omega)))⟩⟩ rfl rfl hl.1 rfl (lv_room (Nat.le_of_ble_eq_true rfl)) dX5_isResolved_174 ⟨Nat.zero_le _, Nat.zero_le _⟩) hh_16.1 (fun q _ h => h) (fun q h => h) (fun r_42 u_41 t_41 H_41 locs_41 ht_41 hvm_41 hr_42 hb_41 hz_41 hk_41 hS_41 => ?_)
                        rw [ht_41] at hb_41
                        obtain ⟨hb_411, hb_412, hb_413, hb_414, hb_415⟩ := hb_41
                        have hh_41 : jSt (dC, dI) B base G0 G0 EX5_isResolvedZ s.heap 0 0 [(syntax_3, 12, 10, .int nodeCount_10), (syntax_3, 12, 9, .ref nodes_6), (r0, 7, 1, .ref syntax_3)] [(nodes_6, 280, 3000, ca 1, f_l3_16)] [] H_41 locs_41 := ((hh_16.call hb_411 hb_412 hb_413 hb_414 hS_41 rfl (L1 := [(syntax_3, 12, 10, .int nodeCount_10), (syntax_3, 12, 9, .ref nodes_6), (r0, 7, 1, .ref syntax_3)]) [0, 1, 2] rfl rfl (M1 := [(nodes_6, 280, 3000, ca 1, f_l3_16)]) [0] rfl rfl (I1 := []) [] rfl rfl).more hb_415)
                        clear hh_16 ht_41 hvm_41 hz_41 hk_41 hS_41 hb_411 hb_412 hb_413 hb_414 hb_415
                        refine j7_iastU hx hb hK hh_41 hB hB280 1 rfl (by decide) (by decide) rfl 0 rfl (M1 := []) [] rfl rfl rfl hg_nodes_6 (x := v5_7.toInt) (rfl) (by omega) (by first | omega | rfl | assumption | decide | exact Or.inl rfl | exact Or.inr rfl | (simp only; omega)) dX5_isResolved_177 (fun H_43 locs_43 fs_44 hv_43 ho_43 hh_43 => ?_)
                        have hv_43 : jSo fs_44 (v5_7.toInt) = r_42.toInt := by unfold jSo; rw [hv_43]; try exact rfl
                        clear hh_41
                        refine lv_aload_n hx hb dX5_isResolved_178 rfl (lv_at hl 4 rfl) ?_
                        refine lv_iload hx hb dX5_isResolved_179 (lv_at hl 6 rfl) ?_
                        refine j7_ialdM hx hb hK hh_43 hB280 1 rfl (by decide) hg_nodes_6 (x := v5_7.toInt) (rfl) (by omega) (j := 0) rfl dX5_isResolved_181 (fun z_45 ez_45 (hz_45 : -1 ≤ z_45.toInt) => ?_)
                        have hqz_45 : z_45.toInt = jSo fs_44 (v5_7.toInt) := by unfold jSo; rw [ez_45]
                        refine lv_if_ge (tgt := 187) hx hb dX5_isResolved_182 (by decide) (fun c_46 => ?_) (fun c_46 => ?_)
                        · skip
                          have c_46' : z_45.toInt ≥ 0 := jb_ge (rfl) ((by decide)) c_46
                          obtain ⟨z_47, ez_47⟩ : ∃ y : Int32, y = v5_7 + 1 := ⟨_, rfl⟩
                          refine lv_iinc (v := z_47) (lv' := [(5, .int z_47), (6, .int z_18), (0, .ref r0), (1, .ref r1), (2, .null), (3, .ref nodes_6), (4, .int v4_14)]) hx hb dX5_isResolved_187 hl (k := 6) rfl (by rw [ez_47]; rfl) (by decide) rfl (fun ls hl => ?_)
                          have hz_47 : z_47.toInt = v5_7.toInt + 1 := by rw [ez_47]; exact jb_iadd2 (rfl) (by decide) (by omega)
                          refine lv_goto (tgt := 14) hx hb dX5_isResolved_190 (by decide) ?_
                          exact L14 v4_14 z_47 _ _ (hh_43.sub (L1 := [(syntax_3, 12, 9, .ref nodes_6), (r0, 7, 1, .ref syntax_3)]) [1, 2] rfl (M1 := []) [] rfl (I1 := []) [] rfl) (by first | omega | (refine ⟨?_, ?_, ?_, ?_⟩ <;> (first | omega | rfl | assumption | decide | exact Or.inl rfl | exact Or.inr rfl | (simp only; omega)))) (by omega) _ (lv_sub hl [2, 3, 4, 5, 6, 0] rfl)
                        · skip
                          have c_46' : z_45.toInt < 0 := jb_ge_n (rfl) ((by decide)) c_46
                          refine lv_iconst (v := 0) hx hb dX5_isResolved_185 (by decide) ?_
                          rw [hQ]
                          exact W.zret (v := 0) hx hb hr (jb_nz (Or.inl rfl)) (fun t ht hW => ⟨⟨0, (), rfl, ⟨(Or.inl rfl), trivial⟩, hh_43.rt (M1 := []) [] rfl ht⟩, by rw [ht]; try exact hh_43.1.1, fun q h9 hq => by rw [ht]; try exact hh_43.1.2.1 q h9 hq⟩) hh_43.1.2.2 dX5_isResolved_186
                    · skip
                      have c_37' : z_18.toInt = 7 := jb_ne_n (rfl) ((by decide)) c_37
                      refine lv_aload_n hx hb dX5_isResolved_139 rfl (lv_at hl 2 rfl) ?_
                      obtain ⟨v_48, hv_48, hh_49⟩ := hh_16.pin (C := RX9) (T := TX9) (N := 9) hB11 rfl (by decide) hg_r1 (i := 3) (by decide) rfl
                      clear hh_16
                      obtain ⟨symbols_50, nsymbols_50, rfl, hg_symbols_50, hn_symbols_50⟩ := hv_48
                      refine j7_read hx hb hown hK (C := RX9) (T := TX9) (N := 9) rfl hly_11_3 hlk_100 (hh_49.at 0 rfl) dX5_isResolved_140 ?_
                      refine lv_aload_n hx hb dX5_isResolved_143 rfl (lv_at hl 4 rfl) ?_
                      refine lv_iload hx hb dX5_isResolved_144 (lv_at hl 6 rfl) ?_
                      refine j7_ialdM hx hb hK hh_49 hB280 1 rfl (by decide) hg_nodes_6 (x := v5_7.toInt) (rfl) (by omega) (j := 0) rfl dX5_isResolved_146 (fun z_51 ez_51 (hz_51 : -1 ≤ z_51.toInt) => ?_)
                      have hqz_51 : z_51.toInt = jSo f_l3_16 (v5_7.toInt) := by unfold jSo; rw [ez_51]
                      refine va_calli (A0 := jA base) (H0 := s.heap) (va_runS (As := [.ref symbols_50, .int z_51]) (rest := []) ⟨hx, hb, hml, hown, hts⟩ (uX9_find l dC dI ca base B hB hAp hB101 G0 H_15 symbols_50 z_51 nsymbols_50) (va_cwS 2 hts (jgS (jWr_81 _ (List.mem_of_getElem? (i := 18) rfl)) (jWr_30 _ (List.mem_of_getElem? (i := 20) rfl)) (jWr_4 _ (List.mem_of_getElem? (i := 18) rfl)) (jWr_30 _ (List.mem_of_getElem? (i := 21) rfl))) rfl rfl rfl (by decide +kernel) ⟨by rw [← hR]; exact Nat.le_of_ble_eq_true rfl, by rw [← hR]; exact Nat.le_of_ble_eq_true rfl⟩) ⟨fun a U g mk q => by obtain ⟨q0, q1, q2, qK, q10, q11, q12⟩ := q; exact ⟨q0, q1, q2, jG.calling g mk a qK, q10, q11, q12⟩, fun U hU hW => ⟨rfl, hU, hh_49.2.1, hG.step hW hU hh_49.1, hg_symbols_50, jP.nil, by first | omega | rfl | assumption | decide | exact Or.inl rfl | exact Or.inr rfl | (simp only; omega)⟩⟩ rfl rfl hl.1 rfl (lv_room (Nat.le_of_ble_eq_true rfl)) dX5_isResolved_147 ⟨Nat.zero_le _, Nat.zero_le _⟩) hh_49.1 (fun q _ h => h) (fun q h => h) (fun r_53 u_52 t_52 H_52 locs_52 ht_52 hvm_52 hr_53 hb_52 hz_52 hk_52 hS_52 => ?_)
                      rw [ht_52] at hb_52
                      obtain ⟨hb_521, hb_522, hb_523, hb_524, hb_525⟩ := hb_52
                      have hh_52 : jSt (dC, dI) B base G0 G0 EX5_isResolvedZ s.heap 0 0 [(r1, 11, 3, .ref symbols_50), (syntax_3, 12, 10, .int nodeCount_10), (syntax_3, 12, 9, .ref nodes_6), (r0, 7, 1, .ref syntax_3)] [(nodes_6, 280, 3000, ca 1, f_l3_16)] [] H_52 locs_52 := ((hh_49.call hb_521 hb_522 hb_523 hb_524 hS_52 rfl (L1 := [(r1, 11, 3, .ref symbols_50), (syntax_3, 12, 10, .int nodeCount_10), (syntax_3, 12, 9, .ref nodes_6), (r0, 7, 1, .ref syntax_3)]) [0, 1, 2, 3] rfl rfl (M1 := [(nodes_6, 280, 3000, ca 1, f_l3_16)]) [0] rfl rfl (I1 := []) [] rfl rfl).more hb_525)
                      clear hh_49 ht_52 hvm_52 hz_52 hk_52 hS_52 hb_521 hb_522 hb_523 hb_524 hb_525
                      obtain ⟨hr_53_0, hr_53_1⟩ := hr_53
                      refine lv_if_ge (tgt := 155) hx hb dX5_isResolved_150 (by decide) (fun c_54 => ?_) (fun c_54 => ?_)
                      · skip
                        have c_54' : r_53.toInt ≥ 0 := jb_ge (rfl) ((by decide)) c_54
                        refine lv_iload hx hb dX5_isResolved_155 (lv_at hl 0 rfl) ?_
                        refine lv_bipush (v := 8) hx hb dX5_isResolved_157 (by decide) ?_
                        refine lv_icmp_ne (tgt := 187) hx hb dX5_isResolved_159 (by decide) (fun c_55 => ?_) (fun c_55 => ?_)
                        · skip
                          have c_55' : z_18.toInt ≠ 8 := jb_ne (rfl) ((by decide)) c_55
                          obtain ⟨z_56, ez_56⟩ : ∃ y : Int32, y = v5_7 + 1 := ⟨_, rfl⟩
                          refine lv_iinc (v := z_56) (lv' := [(5, .int z_56), (6, .int z_18), (0, .ref r0), (1, .ref r1), (2, .null), (3, .ref nodes_6), (4, .int v4_14)]) hx hb dX5_isResolved_187 hl (k := 6) rfl (by rw [ez_56]; rfl) (by decide) rfl (fun ls hl => ?_)
                          have hz_56 : z_56.toInt = v5_7.toInt + 1 := by rw [ez_56]; exact jb_iadd2 (rfl) (by decide) (by omega)
                          refine lv_goto (tgt := 14) hx hb dX5_isResolved_190 (by decide) ?_
                          exact L14 v4_14 z_56 _ _ (hh_52.sub (L1 := [(syntax_3, 12, 9, .ref nodes_6), (r0, 7, 1, .ref syntax_3)]) [2, 3] rfl (M1 := []) [] rfl (I1 := []) [] rfl) (by first | omega | (refine ⟨?_, ?_, ?_, ?_⟩ <;> (first | omega | rfl | assumption | decide | exact Or.inl rfl | exact Or.inr rfl | (simp only; omega)))) (by omega) _ (lv_sub hl [2, 3, 4, 5, 6, 0] rfl)
                        · skip
                          have c_55' : z_18.toInt = 8 := jb_ne_n (rfl) ((by decide)) c_55
                          refine lv_aload_n hx hb dX5_isResolved_162 rfl (lv_at hl 4 rfl) ?_
                          refine lv_iload hx hb dX5_isResolved_163 (lv_at hl 6 rfl) ?_
                          refine lv_aload_n hx hb dX5_isResolved_165 rfl (lv_at hl 1 rfl) ?_
                          refine lv_aload_n hx hb dX5_isResolved_166 rfl (lv_at hl 2 rfl) ?_
                          refine j7_nld_n hx hb dX5_isResolved_167 rfl (lv_at hl 3 rfl) ?_
                          refine lv_aload_n hx hb dX5_isResolved_168 rfl (lv_at hl 4 rfl) ?_
                          refine lv_iload hx hb dX5_isResolved_169 (lv_at hl 6 rfl) ?_
                          refine j7_ialdM hx hb hK hh_52 hB280 1 rfl (by decide) hg_nodes_6 (x := v5_7.toInt) (rfl) (by omega) (j := 0) rfl dX5_isResolved_171 (fun z_57 ez_57 (hz_57 : -1 ≤ z_57.toInt) => ?_)
                          have hqz_57 : z_57.toInt = jSo f_l3_16 (v5_7.toInt) := by unfold jSo; rw [ez_57]
                          refine lv_iload hx hb dX5_isResolved_172 (lv_at hl 5 rfl) ?_
                          refine va_calli (A0 := jA base) (H0 := s.heap) (va_runV (As := [.ref r1, .null, .int z_57, .int v4_14]) (rest := [.int v5_7, .ref nodes_6]) ⟨hx, hb, hml, hown, hts⟩ (uX5_resolvedZ l dC dI ca base B hB hAp hB5 hB7 hB11 hB101 G0 H_52 r0 r1 z_57 v4_14) (cwV 4 hts (jgV (jWr_82 _ (List.mem_of_getElem? (i := 17) rfl)) (jWr_82 _ (List.mem_of_getElem? (i := 18) rfl)) (jWr_82 _ (List.mem_of_getElem? (i := 19) rfl)) (jWr_2 _ (List.mem_of_getElem? (i := 4) rfl)) (jWr_82 _ (List.mem_of_getElem? (i := 20) rfl))) rfl rfl rfl (by decide +kernel) ⟨by rw [← hR]; exact Nat.le_of_ble_eq_true rfl, by rw [← hR]; exact Nat.le_of_ble_eq_true rfl⟩) ⟨fun a U g mk q => by obtain ⟨q0, q1, q2, qK, q10, q11, q12, q13⟩ := q; exact ⟨q0, q1, q2, jG.calling g mk a qK, q10, q11, q12, q13⟩, hh_52.recv (C := RX5) (T := TX5) (N := 11) hB7 rfl (by decide) hg_r0 hK, fun U hU hW => ⟨rfl, hU, hh_52.2.1, hG.step hW hU hh_52.1, hg_r0, hg_r1, jP.nil, by first | omega | (refine ⟨?_, ?_, ?_⟩ <;> (first | omega | rfl | assumption | decide | exact Or.inl rfl | exact Or.inr rfl | (simp only; omega)))⟩⟩ rfl rfl hl.1 rfl (lv_room (Nat.le_of_ble_eq_true rfl)) dX5_isResolved_174 ⟨Nat.zero_le _, Nat.zero_le _⟩) hh_52.1 (fun q _ h => h) (fun q h => h) (fun r_59 u_58 t_58 H_58 locs_58 ht_58 hvm_58 hr_59 hb_58 hz_58 hk_58 hS_58 => ?_)
                          rw [ht_58] at hb_58
                          obtain ⟨hb_581, hb_582, hb_583, hb_584, hb_585⟩ := hb_58
                          have hh_58 : jSt (dC, dI) B base G0 G0 EX5_isResolvedZ s.heap 0 0 [(r1, 11, 3, .ref symbols_50), (syntax_3, 12, 10, .int nodeCount_10), (syntax_3, 12, 9, .ref nodes_6), (r0, 7, 1, .ref syntax_3)] [(nodes_6, 280, 3000, ca 1, f_l3_16)] [] H_58 locs_58 := ((hh_52.call hb_581 hb_582 hb_583 hb_584 hS_58 rfl (L1 := [(r1, 11, 3, .ref symbols_50), (syntax_3, 12, 10, .int nodeCount_10), (syntax_3, 12, 9, .ref nodes_6), (r0, 7, 1, .ref syntax_3)]) [0, 1, 2, 3] rfl rfl (M1 := [(nodes_6, 280, 3000, ca 1, f_l3_16)]) [0] rfl rfl (I1 := []) [] rfl rfl).more hb_585)
                          clear hh_52 ht_58 hvm_58 hz_58 hk_58 hS_58 hb_581 hb_582 hb_583 hb_584 hb_585
                          refine j7_iastU hx hb hK hh_58 hB hB280 1 rfl (by decide) (by decide) rfl 0 rfl (M1 := []) [] rfl rfl rfl hg_nodes_6 (x := v5_7.toInt) (rfl) (by omega) (by first | omega | rfl | assumption | decide | exact Or.inl rfl | exact Or.inr rfl | (simp only; omega)) dX5_isResolved_177 (fun H_60 locs_60 fs_61 hv_60 ho_60 hh_60 => ?_)
                          have hv_60 : jSo fs_61 (v5_7.toInt) = r_59.toInt := by unfold jSo; rw [hv_60]; try exact rfl
                          clear hh_58
                          refine lv_aload_n hx hb dX5_isResolved_178 rfl (lv_at hl 4 rfl) ?_
                          refine lv_iload hx hb dX5_isResolved_179 (lv_at hl 6 rfl) ?_
                          refine j7_ialdM hx hb hK hh_60 hB280 1 rfl (by decide) hg_nodes_6 (x := v5_7.toInt) (rfl) (by omega) (j := 0) rfl dX5_isResolved_181 (fun z_62 ez_62 (hz_62 : -1 ≤ z_62.toInt) => ?_)
                          have hqz_62 : z_62.toInt = jSo fs_61 (v5_7.toInt) := by unfold jSo; rw [ez_62]
                          refine lv_if_ge (tgt := 187) hx hb dX5_isResolved_182 (by decide) (fun c_63 => ?_) (fun c_63 => ?_)
                          · skip
                            have c_63' : z_62.toInt ≥ 0 := jb_ge (rfl) ((by decide)) c_63
                            obtain ⟨z_64, ez_64⟩ : ∃ y : Int32, y = v5_7 + 1 := ⟨_, rfl⟩
                            refine lv_iinc (v := z_64) (lv' := [(5, .int z_64), (6, .int z_18), (0, .ref r0), (1, .ref r1), (2, .null), (3, .ref nodes_6), (4, .int v4_14)]) hx hb dX5_isResolved_187 hl (k := 6) rfl (by rw [ez_64]; rfl) (by decide) rfl (fun ls hl => ?_)
                            have hz_64 : z_64.toInt = v5_7.toInt + 1 := by rw [ez_64]; exact jb_iadd2 (rfl) (by decide) (by omega)
                            refine lv_goto (tgt := 14) hx hb dX5_isResolved_190 (by decide) ?_
                            exact L14 v4_14 z_64 _ _ (hh_60.sub (L1 := [(syntax_3, 12, 9, .ref nodes_6), (r0, 7, 1, .ref syntax_3)]) [2, 3] rfl (M1 := []) [] rfl (I1 := []) [] rfl) (by first | omega | (refine ⟨?_, ?_, ?_, ?_⟩ <;> (first | omega | rfl | assumption | decide | exact Or.inl rfl | exact Or.inr rfl | (simp only; omega)))) (by omega) _ (lv_sub hl [2, 3, 4, 5, 6, 0] rfl)
                          · skip
                            have c_63' : z_62.toInt < 0 := jb_ge_n (rfl) ((by decide)) c_63
                            refine lv_iconst (v := 0) hx hb dX5_isResolved_185 (by decide) ?_
                            rw [hQ]
                            exact W.zret (v := 0) hx hb hr (jb_nz (Or.inl rfl)) (fun t ht hW => ⟨⟨0, (), rfl, ⟨(Or.inl rfl), trivial⟩, hh_60.rt (M1 := []) [] rfl ht⟩, by rw [ht]; try exact hh_60.1.1, fun q h9 hq => by rw [ht]; try exact hh_60.1.2.1 q h9 hq⟩) hh_60.1.2.2 dX5_isResolved_186
                      · skip
                        have c_54' : r_53.toInt < 0 := jb_ge_n (rfl) ((by decide)) c_54
                        refine lv_iconst (v := 0) hx hb dX5_isResolved_153 (by decide) ?_
                        rw [hQ]
                        exact W.zret (v := 0) hx hb hr (jb_nz (Or.inl rfl)) (fun t ht hW => ⟨⟨0, (), rfl, ⟨(Or.inl rfl), trivial⟩, hh_52.rt (M1 := []) [] rfl ht⟩, by rw [ht]; try exact hh_52.1.1, fun q h9 hq => by rw [ht]; try exact hh_52.1.2.1 q h9 hq⟩) hh_52.1.2.2 dX5_isResolved_154
                  · skip
                    have c_36' : z_18.toInt = 6 := jb_ne_n (rfl) ((by decide)) c_36
                    refine lv_iload hx hb dX5_isResolved_80 (lv_at hl 5 rfl) ?_
                    refine lv_aload_n hx hb dX5_isResolved_82 rfl (lv_at hl 1 rfl) ?_
                    obtain ⟨v_65, hv_65, hh_66⟩ := hh_16.pin (C := RX5) (T := TX5) (N := 11) hB7 rfl (by decide) hg_r0 (i := 3) (by decide) rfl
                    clear hh_16
                    obtain ⟨scopeNames_67, rfl, hg_scopeNames_67⟩ := hv_65
                    refine j7_read hx hb hown hK (C := RX5) (T := TX5) (N := 11) rfl hly_7_3 hlk_34 (hh_66.at 0 rfl) dX5_isResolved_83 ?_
                    refine j7_len hx hb hK hh_66 hB101 1 rfl (by decide) hg_scopeNames_67 (by omega) dX5_isResolved_86 (fun z_68 hz_68 => ?_)
                    refine lv_icmp_lt (tgt := 92) hx hb dX5_isResolved_87 (by decide) (fun c_69 => ?_) (fun c_69 => ?_)
                    · skip
                      have c_69' : v4_14.toInt < z_68.toInt := jb_lt (rfl) (rfl) c_69
                      refine lv_aload_n hx hb dX5_isResolved_92 rfl (lv_at hl 1 rfl) ?_
                      refine j7_read hx hb hown hK (C := RX5) (T := TX5) (N := 11) rfl hly_7_3 hlk_34 (hh_66.at 0 rfl) dX5_isResolved_93 ?_
                      refine lv_iload hx hb dX5_isResolved_96 (lv_at hl 5 rfl) ?_
                      refine lv_aload_n hx hb dX5_isResolved_98 rfl (lv_at hl 4 rfl) ?_
                      refine lv_iload hx hb dX5_isResolved_99 (lv_at hl 6 rfl) ?_
                      refine j7_ialdM hx hb hK hh_66 hB280 1 rfl (by decide) hg_nodes_6 (x := v5_7.toInt) (rfl) (by omega) (j := 0) rfl dX5_isResolved_101 (fun z_70 ez_70 (hz_70 : -1 ≤ z_70.toInt) => ?_)
                      have hqz_70 : z_70.toInt = jSo f_l3_16 (v5_7.toInt) := by unfold jSo; rw [ez_70]
                      refine lv_bipush (v := 15) hx hb dX5_isResolved_102 (by decide) ?_
                      refine lv_ishr hx hb dX5_isResolved_104 ?_
                      refine lv_topi (fun z_71 ez_71 => ?_)
                      have hz_71 : z_71.toInt = z_70.toInt / 2 ^ 15 := by rw [ez_71]; exact jb_ishr 15 (rfl) (by decide)
                      refine j7_iast hx hb hK hh_66 hB hB101 1 rfl (by decide) (by decide) rfl rfl rfl hg_scopeNames_67 (x := v4_14.toInt) (rfl) (by omega) (trivial) dX5_isResolved_105 (fun H_72 locs_72 hh_72 => ?_)
                      clear hh_66
                      refine lv_aload_n hx hb dX5_isResolved_106 rfl (lv_at hl 1 rfl) ?_
                      obtain ⟨v_73, hv_73, hh_74⟩ := hh_72.pin (C := RX5) (T := TX5) (N := 11) hB7 rfl (by decide) hg_r0 (i := 4) (by decide) rfl
                      clear hh_72
                      obtain ⟨scopeEnds_75, rfl, hg_scopeEnds_75⟩ := hv_73
                      refine j7_read hx hb hown hK (C := RX5) (T := TX5) (N := 11) rfl hly_7_4 hlk_38 (hh_74.at 0 rfl) dX5_isResolved_107 ?_
                      refine lv_iload hx hb dX5_isResolved_110 (lv_at hl 5 rfl) ?_
                      refine lv_aload_n hx hb dX5_isResolved_112 rfl (lv_at hl 4 rfl) ?_
                      refine lv_iload hx hb dX5_isResolved_113 (lv_at hl 6 rfl) ?_
                      refine lv_aload_n hx hb dX5_isResolved_115 rfl (lv_at hl 1 rfl) ?_
                      refine j7_read hx hb hown hK (C := RX5) (T := TX5) (N := 11) rfl hly_7_1 hlk_23 (hh_74.at 4 rfl) dX5_isResolved_116 ?_
                      refine j7_read hx hb hown hK (C := RX10) (T := TX10) (N := 11) rfl hly_12_10 hlk_114 (hh_74.at 2 rfl) dX5_isResolved_119 ?_
                      refine va_calli (A0 := jA base) (H0 := s.heap) (va_runSN (As := [.ref nodes_6, .int v5_7, .int nodeCount_10]) (rest := [.int v4_14, .ref scopeEnds_75]) ⟨hx, hb, hml, hown, hts⟩ (uX11_endOfB l dC dI ca base B hB hAp hB280 G0 H_72 nodes_6 v5_7 nodeCount_10 3000) ⟨va_cnB 3 hts (jgW (jWr_32 _ (List.mem_of_getElem? (i := 4) rfl))) rfl rfl rfl (hG.2.2.1 RX5 183 yX11_endOf "ProofServer" (List.mem_of_getElem? (i := 1460) (by decide +kernel))) (htw (.initialized RX11) (jWr_1 _ (List.mem_of_getElem? (i := 2) rfl))) (by decide +kernel) ⟨by rw [← hR]; exact Nat.le_of_ble_eq_true rfl, by rw [← hR]; exact Nat.le_of_ble_eq_true rfl⟩, htw (.static yX11_endOf) (jWr_32 _ (List.mem_of_getElem? (i := 3) rfl)), trivial⟩ ⟨fun a U g mk q => by obtain ⟨q0, q1, q2, qK, q10, q11, q12⟩ := q; exact ⟨q0, q1, q2, jG.calling g mk a qK, q10, q11, q12⟩, fun U hU hW => ⟨rfl, hU, hh_74.2.1, hG.step hW hU hh_74.1, hg_nodes_6, jP.nil, by first | omega | (refine ⟨?_, ?_, ?_⟩ <;> (first | omega | rfl | assumption | decide | exact Or.inl rfl | exact Or.inr rfl | (simp only; omega)))⟩⟩ rfl rfl hl.1 rfl (lv_room (Nat.le_of_ble_eq_true rfl)) dX5_isResolved_122 ⟨Nat.zero_le _, Nat.zero_le _⟩) hh_74.1 (fun q _ h => h) (fun q h => h) (fun r_77 u_76 t_76 H_76 locs_76 ht_76 hvm_76 hr_77 hb_76 hz_76 hk_76 hS_76 => ?_)
                      rw [ht_76] at hb_76
                      obtain ⟨hb_761, hb_762, hb_763, hb_764, hb_765⟩ := hb_76
                      have hh_76 : jSt (dC, dI) B base G0 G0 EX5_isResolvedZ s.heap 0 0 [(r0, 7, 4, .ref scopeEnds_75), (r0, 7, 3, .ref scopeNames_67), (syntax_3, 12, 10, .int nodeCount_10), (syntax_3, 12, 9, .ref nodes_6), (r0, 7, 1, .ref syntax_3)] [(nodes_6, 280, 3000, ca 1, f_l3_16)] [] H_76 locs_76 := ((hh_74.call hb_761 hb_762 hb_763 hb_764 hS_76 rfl (L1 := [(r0, 7, 4, .ref scopeEnds_75), (r0, 7, 3, .ref scopeNames_67), (syntax_3, 12, 10, .int nodeCount_10), (syntax_3, 12, 9, .ref nodes_6), (r0, 7, 1, .ref syntax_3)]) [0, 1, 2, 3, 4] rfl rfl (M1 := [(nodes_6, 280, 3000, ca 1, f_l3_16)]) [0] rfl rfl (I1 := []) [] rfl rfl).more hb_765)
                      clear hh_74 ht_76 hvm_76 hz_76 hk_76 hS_76 hb_761 hb_762 hb_763 hb_764 hb_765
                      obtain ⟨hr_77_0, hr_77_1⟩ := hr_77
                      refine j7_iast hx hb hK hh_76 hB hB101 1 rfl (by decide) (by decide) rfl rfl rfl hg_scopeEnds_75 (x := v4_14.toInt) (rfl) (by omega) (trivial) dX5_isResolved_125 (fun H_78 locs_78 hh_78 => ?_)
                      clear hh_76
                      obtain ⟨z_79, ez_79⟩ : ∃ y : Int32, y = v4_14 + 1 := ⟨_, rfl⟩
                      refine lv_iinc (v := z_79) (lv' := [(4, .int z_79), (6, .int z_18), (0, .ref r0), (1, .ref r1), (2, .null), (3, .ref nodes_6), (5, .int v5_7)]) hx hb dX5_isResolved_126 hl (k := 5) rfl (by rw [ez_79]; rfl) (by decide) rfl (fun ls hl => ?_)
                      have hz_79 : z_79.toInt = v4_14.toInt + 1 := by rw [ez_79]; exact jb_iadd2 (rfl) (by decide) (by omega)
                      refine lv_goto (tgt := 187) hx hb dX5_isResolved_129 (by decide) ?_
                      obtain ⟨z_80, ez_80⟩ : ∃ y : Int32, y = v5_7 + 1 := ⟨_, rfl⟩
                      refine lv_iinc (v := z_80) (lv' := [(5, .int z_80), (4, .int z_79), (6, .int z_18), (0, .ref r0), (1, .ref r1), (2, .null), (3, .ref nodes_6)]) hx hb dX5_isResolved_187 hl (k := 6) rfl (by rw [ez_80]; rfl) (by decide) rfl (fun ls hl => ?_)
                      have hz_80 : z_80.toInt = v5_7.toInt + 1 := by rw [ez_80]; exact jb_iadd2 (rfl) (by decide) (by omega)
                      refine lv_goto (tgt := 14) hx hb dX5_isResolved_190 (by decide) ?_
                      exact L14 z_79 z_80 _ _ (hh_78.sub (L1 := [(syntax_3, 12, 9, .ref nodes_6), (r0, 7, 1, .ref syntax_3)]) [3, 4] rfl (M1 := []) [] rfl (I1 := []) [] rfl) (by first | omega | (refine ⟨?_, ?_, ?_, ?_⟩ <;> (first | omega | rfl | assumption | decide | exact Or.inl rfl | exact Or.inr rfl | (simp only; omega)))) (by omega) _ (lv_sub hl [3, 4, 5, 6, 1, 0] rfl)
                    · skip
                      have c_69' : v4_14.toInt ≥ z_68.toInt := jb_lt_n (rfl) (rfl) c_69
                      refine lv_iconst (v := 0) hx hb dX5_isResolved_90 (by decide) ?_
                      rw [hQ]
                      exact W.zret (v := 0) hx hb hr (jb_nz (Or.inl rfl)) (fun t ht hW => ⟨⟨0, (), rfl, ⟨(Or.inl rfl), trivial⟩, hh_66.rt (M1 := []) [] rfl ht⟩, by rw [ht]; try exact hh_66.1.1, fun q h9 hq => by rw [ht]; try exact hh_66.1.2.1 q h9 hq⟩) hh_66.1.2.2 dX5_isResolved_91
              refine lv_if_le (tgt := 58) hx hb dX5_isResolved_35 (by decide) (fun c_81 => ?_) (fun c_81 => ?_)
              · skip
                have c_81' : v4_14.toInt ≤ 0 := jb_le (rfl) ((by decide)) c_81
                exact C58  _ _ hh_14 (trivial) _ (lv_sub hl [0, 1, 2, 3, 4, 5] rfl)
              · skip
                have c_81' : v4_14.toInt > 0 := jb_le_n (rfl) ((by decide)) c_81
                refine lv_aload_n hx hb dX5_isResolved_38 rfl (lv_at hl 0 rfl) ?_
                obtain ⟨v_82, hv_82, hh_83⟩ := hh_14.pin (C := RX5) (T := TX5) (N := 11) hB7 rfl (by decide) hg_r0 (i := 4) (by decide) rfl
                clear hh_14
                obtain ⟨scopeEnds_84, rfl, hg_scopeEnds_84⟩ := hv_82
                refine j7_read hx hb hown hK (C := RX5) (T := TX5) (N := 11) rfl hly_7_4 hlk_38 (hh_83.at 0 rfl) dX5_isResolved_39 ?_
                refine lv_iload hx hb dX5_isResolved_42 (lv_at hl 4 rfl) ?_
                refine lv_iconst (v := 1) hx hb dX5_isResolved_44 (by decide) ?_
                refine lv_isub hx hb dX5_isResolved_45 ?_
                refine lv_topi (fun z_85 ez_85 => ?_)
                have hz_85 : z_85.toInt = v4_14.toInt - 1 := by rw [ez_85]; exact jb_isub2 (rfl) ((by decide)) (by omega)
                refine j7_iald hx hb hK hh_83 hB101 1 rfl (by decide) hg_scopeEnds_84 (x := z_85.toInt) (rfl) (by omega) dX5_isResolved_46 (fun z_86 (hz_86 : True) => ?_)
                refine lv_iload hx hb dX5_isResolved_47 (lv_at hl 5 rfl) ?_
                refine lv_icmp_gt (tgt := 58) hx hb dX5_isResolved_49 (by decide) (fun c_87 => ?_) (fun c_87 => ?_)
                · skip
                  have c_87' : z_86.toInt > v5_7.toInt := jb_gt (rfl) (rfl) c_87
                  exact C58  _ _ (hh_83.sub (L1 := [(syntax_3, 12, 10, .int nodeCount_10), (syntax_3, 12, 9, .ref nodes_6), (r0, 7, 1, .ref syntax_3)]) [1, 2, 3] rfl (M1 := []) [] rfl (I1 := []) [] rfl) (trivial) _ (lv_sub hl [0, 1, 2, 3, 4, 5] rfl)
                · skip
                  have c_87' : z_86.toInt ≤ v5_7.toInt := jb_gt_n (rfl) (rfl) c_87
                  obtain ⟨z_88, ez_88⟩ : ∃ y : Int32, y = v4_14 + (-1) := ⟨_, rfl⟩
                  refine lv_iinc (v := z_88) (lv' := [(4, .int z_88), (0, .ref r0), (1, .ref r1), (2, .null), (3, .ref nodes_6), (5, .int v5_7)]) hx hb dX5_isResolved_52 hl (k := 4) rfl (by rw [ez_88]; rfl) (by decide) rfl (fun ls hl => ?_)
                  have hz_88 : z_88.toInt = v4_14.toInt + (-1) := by rw [ez_88]; exact jb_iadd2 (rfl) (by decide) (by omega)
                  refine lv_goto (tgt := 33) hx hb dX5_isResolved_55 (by decide) ?_
                  exact L33 z_88 _ _ (hh_83.sub (L1 := [(syntax_3, 12, 10, .int nodeCount_10), (syntax_3, 12, 9, .ref nodes_6), (r0, 7, 1, .ref syntax_3)]) [1, 2, 3] rfl (M1 := []) [] rfl (I1 := []) [] rfl) (by first | omega | (refine ⟨?_, ?_⟩ <;> (first | omega | rfl | assumption | decide | exact Or.inl rfl | exact Or.inr rfl | (simp only; omega)))) (by omega) _ (lv_sub hl [1, 2, 3, 4, 0, 5] rfl)
          exact L33 ((v4_7 : Int32).toInt : Int).toNat.succ v4_7 _ _ hh_9 (by first | omega | (refine ⟨?_, ?_⟩ <;> (first | omega | rfl | assumption | decide | exact Or.inl rfl | exact Or.inr rfl | (simp only; omega)))) (by omega) _ (lv_sub hl [0, 1, 2, 3, 4, 5] rfl)
  exact L14 (3000 - (0 : Int32).toInt : Int).toNat.succ 0 0 _ _ hh_5 (by first | omega | (refine ⟨?_, ?_, ?_, ?_⟩ <;> (first | omega | rfl | assumption | decide | exact Or.inl rfl | exact Or.inr rfl | (simp only; omega)))) (by omega) _ (lv_sub hl [3, 4, 5, 2, 1, 0] rfl)
set_option maxHeartbeats 4000000 in
set_option maxRecDepth 20000 in
theorem uX5_nameFault (l : Launch) (dC : Nat → ClassId) (dI : Nat → Nat → Nat) (ca : Nat → ClassId) (base : Nat) (B : jF) (hB : jBok B) (hAp : jAp (dC, dI)) (hB5 : ∀ n G a H, B 5 n G a H ↔ jOb (dC, dI) 5 4 (F5 n G) a H) (hB7 : ∀ n G a H, B 7 n G a H ↔ jOb (dC, dI) 7 11 (F7 n G) a H) (hB11 : ∀ n G a H, B 11 n G a H ↔ jOb (dC, dI) 11 9 (F11 n G) a H) (hB12 : ∀ n G a H, B 12 n G a H ↔ jOb (dC, dI) 12 11 (F12b n G) a H) (hB101 : ∀ n G a H, B 101 n G a H ↔ jAr (dC, dI) (ca 1) (fun j z => True) n a H) (hB280 : ∀ n G a H, B 280 n G a H ↔ jAr (dC, dI) (ca 1) (fun j z => -1 ≤ z.toInt) n a H) (hB292 : ∀ n G a H, B 292 n G a H ↔ jAr (dC, dI) (ca 1) (fun j z => 0 ≤ z.toInt ∧ z.toInt ≤ 8191) n a H) (hB313 : ∀ n G a H, B 313 n G a H ↔ jAq (dC, dI) (ca 8) (jQk 280 80) n G a H) (G0 : jT) (H0 : Heap) (r0 : Nat) (r1 : Nat) (r2 : Nat) (n2 : Nat) : Met l yX5_nameFault (jw yX5_nameFault cX5_nameFault 6 (some .int)) ({ frames := 3, cells := 0, slots := 0, locals := 75 }) (va_Pc [.ref r0, .ref r1, .ref r2] (fun U => U.heap = H0 ∧ jX B base G0 [] H0 ∧ jG dC dI ca base U ∧ jK2 dC dI ca U ∧ jK5 dC dI ca U ∧ G0 r0 = some (7, 0) ∧ G0 r1 = some (11, 0) ∧ G0 r2 = some (5, n2) ∧ jP (dC, dI) G0 H0 [] ∧ jIs (dC, dI) G0 H0 [(jFs11, jSef dC dI G0)] ∧ n2 % 10 = 1)) (va_Qi (S := Unit) (fun r u => (True)) (fun u t => (jRt (dC, dI) B base G0 EX5_nameFault H0 [] t.heap) ∧ jIs (dC, dI) G0 t.heap [(jFs11, jSef dC dI G0)]) (jA base)) 0 0 (jA base) := by
  refine Met.ofW (cc := cX5_nameFault) (maxL := 6) (ret := (some .int)) (by decide) rfl ?_
  intro p e s m args below meth c s₁ Bd hml hv
  obtain ⟨rfl, hH0, hX, hG, hK2, hK5, hg_r0, hg_r1, hg_r2, hP0, hI0, hp0⟩ := hv
  have hK := hG.1
  have hx := Bd.exec
  have hb := Bd.bytes
  have hr := Bd.returns
  have hts := atoms_spec (ws := (jw yX5_nameFault cX5_nameFault 6 (some .int))) Bd.pre
  have htw : ∀ w ∈ jWl, w.before _ s = true := fun w h => hts w (List.mem_cons_of_mem _ h)
  have hown : s.vm.findClass RX5 = some m.cls := findClass_of_methodNamed Bd.named
  have hlocks := Bd.notSynchronized
  obtain ⟨Q, hQ⟩ : ∃ Q, Q = MQ below (va_Qi (S := Unit) (fun r u => (True)) (fun u t => (jRt (dC, dI) B base G0 EX5_nameFault H0 [] t.heap) ∧ jIs (dC, dI) G0 t.heap [(jFs11, jSef dC dI G0)]) (jA base)) ([.ref r0, .ref r1, .ref r2] : List Value).toArray s 0 0 (jA base) := ⟨_, rfl⟩
  rw [← hQ]
  have hl := lv_entry ([.ref r0, .ref r1, .ref r2]) (n := 6) (Nat.le_of_ble_eq_true rfl)
  rw [lg_entry_eq]
  generalize (lg_sl ([.ref r0, .ref r1, .ref r2]) ++ List.replicate (6 - (lg_sl ([.ref r0, .ref r1, .ref r2])).length) Slot.unset).toArray = ls at hl ⊢
  have hl : lv_has ls 6 [(0, .ref r0), (1, .ref r1), (2, .ref r2)] := hl
  generalize hR : (headSpec (jw yX5_nameFault cX5_nameFault 6 (some .int)) ({ frames := 3, cells := 0, slots := 0, locals := 75 })).room = R
  subst hH0
  have hh : jSt (dC, dI) B base G0 G0 EX5_nameFault s.heap 0 0 [] [] [(jFs11, jSef dC dI G0)] s.heap [] := jSt.start hX hP0 jMc.nil hI0
  clear hX hP0
  have hk0 : (0 : Int32).toInt = 0 := by decide
  have hk1 : (1 : Int32).toInt = 1 := by decide
  have hk2 : (2 : Int32).toInt = 2 := by decide
  have hk5 : (5 : Int32).toInt = 5 := by decide
  have hk6 : (6 : Int32).toInt = 6 := by decide
  have hly_5_1 := htw (u_lay RX3 TX3 1) (jWc_wsX30 _ (u_in_lay (by decide)))
  have hly_7_1 := htw (u_lay RX5 TX5 1) (jWc_wsX50 _ (u_in_lay (by decide)))
  have hly_12_5 := htw (u_lay RX10 TX10 5) (jWc_wsX100 _ (u_in_lay (by decide)))
  have hly_12_6 := htw (u_lay RX10 TX10 6) (jWc_wsX100 _ (u_in_lay (by decide)))
  have hlk_23 := (htw (.fieldLink RX5 23 "ProofServer$Kernel" "syntax" "LProofServer$Syntax;") (jWr_4 _ (List.mem_of_getElem? (i := 15) rfl)))
  have hlk_93 := (htw (.fieldLink RX5 93 "ProofServer$Syntax" "told" "[I") (jWr_81 _ (List.mem_of_getElem? (i := 8) rfl)))
  have hlk_74 := (htw (.fieldLink RX5 74 "ProofServer$Syntax" "word" "I") (jWr_78 _ (List.mem_of_getElem? (i := 19) rfl)))
  have hlk_164 := (htw (.fieldLink RX5 164 "ProofServer$Goal" "names" "[I") (jWr_81 _ (List.mem_of_getElem? (i := 16) rfl)))
  obtain ⟨v_1, hv_1, hh_2⟩ := hh.pin (C := RX3) (T := TX3) (N := 4) hB5 rfl (by decide) hg_r2 (i := 2) (by decide) rfl
  obtain ⟨hypotheses_3, khypotheses_3, rfl, hg_hypotheses_3, hhahypotheses_3, hhbhypotheses_3, hhchypotheses_3, hhdhypotheses_3, hhehypotheses_3⟩ := hv_1
  obtain rfl : khypotheses_3 = 313 := hhbhypotheses_3 (by omega)
  refine lv_aload_n hx hb dX5_nameFault_0 rfl (lv_at hl 0 rfl) ?_
  obtain ⟨v_4, hv_4, hh_5⟩ := hh_2.pin (C := RX5) (T := TX5) (N := 11) hB7 rfl (by decide) hg_r0 (i := 1) (by decide) rfl
  clear hh_2
  obtain ⟨syntax_6, rfl, hg_syntax_6⟩ := hv_4
  refine j7_read hx hb hown hK (C := RX5) (T := TX5) (N := 11) rfl hly_7_1 hlk_23 (hh_5.at 0 rfl) dX5_nameFault_1 ?_
  obtain ⟨v_7, hv_7, hh_8⟩ := hh_5.pin (C := RX10) (T := TX10) (N := 11) hB12 rfl (by decide) hg_syntax_6 (i := 6) (by decide) rfl
  clear hh_5
  obtain ⟨told_9, rfl, hg_told_9⟩ := hv_7
  refine j7_read hx hb hown hK (C := RX10) (T := TX10) (N := 11) rfl hly_12_6 hlk_93 (hh_8.at 0 rfl) dX5_nameFault_4 ?_
  refine lv_iconst (v := 0) hx hb dX5_nameFault_7 (by decide) ?_
  refine j7_iald hx hb hK hh_8 hB292 1 rfl (by decide) hg_told_9 (x := 0) ((by decide)) (by omega) dX5_nameFault_8 (fun z_10 (hz_10 : 0 ≤ z_10.toInt ∧ z_10.toInt ≤ 8191) => ?_)
  refine lv_istore_n (lv' := [(3, .int z_10), (0, .ref r0), (1, .ref r1), (2, .ref r2)]) hx hb dX5_nameFault_9 rfl hl (by decide) rfl (fun ls hl => ?_)
  refine lv_aload_n hx hb dX5_nameFault_10 rfl (lv_at hl 1 rfl) ?_
  refine j7_read hx hb hown hK (C := RX5) (T := TX5) (N := 11) rfl hly_7_1 hlk_23 (hh_8.at 1 rfl) dX5_nameFault_11 ?_
  refine j7_read hx hb hown hK (C := RX10) (T := TX10) (N := 11) rfl hly_12_6 hlk_93 (hh_8.at 0 rfl) dX5_nameFault_14 ?_
  refine lv_iconst (v := 1) hx hb dX5_nameFault_17 (by decide) ?_
  refine j7_iald hx hb hK hh_8 hB292 1 rfl (by decide) hg_told_9 (x := 1) ((by decide)) (by omega) dX5_nameFault_18 (fun z_11 (hz_11 : 0 ≤ z_11.toInt ∧ z_11.toInt ≤ 8191) => ?_)
  refine lv_istore (lv' := [(4, .int z_11), (3, .int z_10), (0, .ref r0), (1, .ref r1), (2, .ref r2)]) hx hb dX5_nameFault_19 hl (by decide) rfl (fun ls hl => ?_)
  refine lv_aload_n hx hb dX5_nameFault_21 rfl (lv_at hl 2 rfl) ?_
  refine j7_read hx hb hown hK (C := RX5) (T := TX5) (N := 11) rfl hly_7_1 hlk_23 (hh_8.at 1 rfl) dX5_nameFault_22 ?_
  obtain ⟨v_12, hv_12, hh_13⟩ := hh_8.pin (C := RX10) (T := TX10) (N := 11) hB12 rfl (by decide) hg_syntax_6 (i := 5) (by decide) rfl
  clear hh_8
  obtain ⟨word_14, rfl⟩ := hv_12
  refine j7_read hx hb hown hK (C := RX10) (T := TX10) (N := 11) rfl hly_12_5 hlk_74 (hh_13.at 0 rfl) dX5_nameFault_25 ?_
  have C112 : ∀ (H_16 : Heap) (locs_16 : List Loc), jSt (dC, dI) B base G0 G0 EX5_nameFault s.heap 0 0 [(syntax_6, 12, 5, .int word_14), (syntax_6, 12, 6, .ref told_9), (r0, 7, 1, .ref syntax_6), (r2, 5, 2, .ref hypotheses_3)] [] [(jFs11, jSef dC dI G0)] H_16 locs_16 → (10 ≤ word_14.toInt ∧ word_14.toInt ≤ 20) → ∀ ls : Array Slot, lv_has ls 6 [(0, .ref r0), (1, .ref r1), (2, .ref r2), (3, .int z_10), (4, .int z_11)] → W p l e R s m ([.ref r0, .ref r1, .ref r2] : List Value).toArray below meth c H_16 locs_16 0 0 Q (F0 m 112 ls []) := by
    intro  H_16 locs_16 hh_16  hi_16 ls hl
    obtain ⟨hi_16_0, hi_16_1⟩ := hi_16
    refine lv_aload_n hx hb dX5_nameFault_112 rfl (lv_at hl 1 rfl) ?_
    refine lv_aload_n hx hb dX5_nameFault_113 rfl (lv_at hl 2 rfl) ?_
    refine lv_iload_n hx hb dX5_nameFault_114 rfl (lv_at hl 3 rfl) ?_
    refine j_callx (A0 := jA base) (H0 := s.heap) (va_runS (As := [.ref r1, .ref r2, .int z_10]) (rest := []) ⟨hx, hb, hml, hown, hts⟩ (uX5_named l dC dI ca base B hB hAp hB5 hB11 hB101 hB280 hB313 G0 H_16 r1 r2 z_10 n2) (va_cwS 3 hts (jgS (jWr_84 _ (List.mem_of_getElem? (i := 7) rfl)) (jWr_84 _ (List.mem_of_getElem? (i := 8) rfl)) (jWr_2 _ (List.mem_of_getElem? (i := 4) rfl)) (jWr_84 _ (List.mem_of_getElem? (i := 9) rfl))) rfl rfl rfl (by decide +kernel) ⟨by rw [← hR]; exact Nat.le_of_ble_eq_true rfl, by rw [← hR]; exact Nat.le_of_ble_eq_true rfl⟩) ⟨fun a U g mk q => by obtain ⟨q0, q1, q2, qK, q10, q11, q12, q13, q14, q15⟩ := q; exact ⟨q0, q1, q2, jG.calling g mk a qK, (jK5.moved (Vm.Alike.refl U.vm) q10), q11, q12, q13, q14, q15⟩, fun U hU hW => ⟨rfl, hU, hh_16.2.1, hG.step hW hU hh_16.1, jK5.moved hW.alike hK5, hg_r1, hg_r2, jP.nil, (hh_16.2.2.2.2.2.2.2.2.sub (L1 := [(jFs11, jSef dC dI G0)]) [0] rfl), by first | omega | rfl | assumption | decide | exact Or.inl rfl | exact Or.inr rfl | (simp only; omega)⟩⟩ rfl rfl hl.1 rfl (lv_room (Nat.le_of_ble_eq_true rfl)) dX5_nameFault_115 ⟨Nat.zero_le _, Nat.zero_le _⟩) hh_16.1 (fun q _ h => h) (fun q h => h) (fun r_18 u_17 t_17 H_17 locs_17 ht_17 hvm_17 hr_18 hb_17 hz_17 hk_17 hS_17 => ?_)
    rw [ht_17] at hb_17
    obtain ⟨hb_17, hbE_17⟩ := hb_17
    obtain ⟨hb_171, hb_172, hb_173, hb_174, hb_175⟩ := hb_17
    have hh_17 : jSt (dC, dI) B base G0 G0 EX5_nameFault s.heap 0 0 [(syntax_6, 12, 5, .int word_14), (syntax_6, 12, 6, .ref told_9), (r0, 7, 1, .ref syntax_6), (r2, 5, 2, .ref hypotheses_3)] [] [(jFs11, jSef dC dI G0)] H_17 locs_17 := (((hh_16.call hb_171 hb_172 hb_173 hb_174 hS_17 rfl (L1 := [(syntax_6, 12, 5, .int word_14), (syntax_6, 12, 6, .ref told_9), (r0, 7, 1, .ref syntax_6), (r2, 5, 2, .ref hypotheses_3)]) [0, 1, 2, 3] rfl rfl (M1 := []) [] rfl rfl (I1 := []) [] rfl rfl).more hb_175)).addIs hbE_17
    clear hh_16 ht_17 hvm_17 hz_17 hk_17 hS_17 hb_171 hb_172 hb_173 hb_174 hb_175
    clear  hbE_17
    rcases hr_18 with rfl | ⟨ret_19, nret_19, rfl, hg_ret_19, hn_ret_19⟩
    · skip
      refine lv_ifnonnullN hx hb dX5_nameFault_118 ?_
      refine lv_iconst (v := 5) hx hb dX5_nameFault_121 (by decide) ?_
      refine lv_goto (tgt := 126) hx hb dX5_nameFault_122 (by decide) ?_
      rw [hQ]
      exact W.iret (v := 5) hx hb hr (fun t ht hW => ⟨⟨5, (), rfl, trivial, ⟨hh_17.rt (M1 := []) [] rfl ht, by rw [ht]; exact hh_17.2.2.2.2.2.2.2.2.sub (L1 := [(jFs11, jSef dC dI G0)]) [0] rfl⟩⟩, by rw [ht]; try exact hh_17.1.1, fun q h9 hq => by rw [ht]; try exact hh_17.1.2.1 q h9 hq⟩) hh_17.1.2.2 dX5_nameFault_126
    · skip
      refine lv_ifnonnull (tgt := 125) hx hb dX5_nameFault_118 (by decide) ?_
      refine lv_iconst (v := 0) hx hb dX5_nameFault_125 (by decide) ?_
      rw [hQ]
      exact W.iret (v := 0) hx hb hr (fun t ht hW => ⟨⟨0, (), rfl, trivial, ⟨hh_17.rt (M1 := []) [] rfl ht, by rw [ht]; exact hh_17.2.2.2.2.2.2.2.2.sub (L1 := [(jFs11, jSef dC dI G0)]) [0] rfl⟩⟩, by rw [ht]; try exact hh_17.1.1, fun q h9 hq => by rw [ht]; try exact hh_17.1.2.1 q h9 hq⟩) hh_17.1.2.2 dX5_nameFault_126
  rcases (by omega : (word_14.toInt < 9 ∨ 21 < word_14.toInt) ∨ word_14.toInt = 9 ∨ word_14.toInt = 10 ∨ word_14.toInt = 11 ∨ word_14.toInt = 12 ∨ word_14.toInt = 13 ∨ word_14.toInt = 14 ∨ word_14.toInt = 15 ∨ word_14.toInt = 16 ∨ word_14.toInt = 17 ∨ word_14.toInt = 18 ∨ word_14.toInt = 19 ∨ word_14.toInt = 20 ∨ word_14.toInt = 21) with c_15 | c_15 | c_15 | c_15 | c_15 | c_15 | c_15 | c_15 | c_15 | c_15 | c_15 | c_15 | c_15 | c_15
  · refine lv_tableOut (tgt := 283) hx hb dX5_nameFault_28 c_15 (by decide) ?_
    refine lv_iconst (v := 0) hx hb dX5_nameFault_283 (by decide) ?_
    rw [hQ]
    exact W.iret (v := 0) hx hb hr (fun t ht hW => ⟨⟨0, (), rfl, trivial, ⟨hh_13.rt (M1 := []) [] rfl ht, by rw [ht]; exact hh_13.2.2.2.2.2.2.2.2.sub (L1 := [(jFs11, jSef dC dI G0)]) [0] rfl⟩⟩, by rw [ht]; try exact hh_13.1.1, fun q h9 hq => by rw [ht]; try exact hh_13.1.2.1 q h9 hq⟩) hh_13.1.2.2 dX5_nameFault_284
  · refine lv_tableIn (off := 68) (tgt := 96) hx hb dX5_nameFault_28 (by omega) (by omega) (by rw [c_15]; rfl) (by decide) ?_
    refine lv_aload_n hx hb dX5_nameFault_96 rfl (lv_at hl 3 rfl) ?_
    refine lv_aload_n hx hb dX5_nameFault_97 rfl (lv_at hl 4 rfl) ?_
    refine lv_iload_n hx hb dX5_nameFault_98 rfl (lv_at hl 1 rfl) ?_
    refine va_calli (A0 := jA base) (H0 := s.heap) (va_runS (As := [.ref r1, .ref r2, .int z_10]) (rest := []) ⟨hx, hb, hml, hown, hts⟩ (uX5_isTaken l dC dI ca base B hB hAp hB5 hB11 hB101 G0 s.heap r1 r2 z_10 n2) (va_cwS 3 hts (jgS (jWr_81 _ (List.mem_of_getElem? (i := 11) rfl)) (jWr_81 _ (List.mem_of_getElem? (i := 12) rfl)) (jWr_2 _ (List.mem_of_getElem? (i := 4) rfl)) (jWr_81 _ (List.mem_of_getElem? (i := 13) rfl))) rfl rfl rfl (by decide +kernel) ⟨by rw [← hR]; exact Nat.le_of_ble_eq_true rfl, by rw [← hR]; exact Nat.le_of_ble_eq_true rfl⟩) ⟨fun a U g mk q => by obtain ⟨q0, q1, q2, qK, q10, q11, q12, q13⟩ := q; exact ⟨q0, q1, q2, jG.calling g mk a qK, q10, q11, q12, q13⟩, fun U hU hW => ⟨rfl, hU, hh_13.2.1, hG.step hW hU hh_13.1, hg_r1, hg_r2, jP.nil, by first | omega | (refine ⟨?_, ?_⟩ <;> (first | omega | rfl | assumption | decide | exact Or.inl rfl | exact Or.inr rfl | (simp only; omega)))⟩⟩ rfl rfl hl.1 rfl (lv_room (Nat.le_of_ble_eq_true rfl)) dX5_nameFault_99 ⟨Nat.zero_le _, Nat.zero_le _⟩) hh_13.1 (fun q _ h => h) (fun q h => h) (fun r_21 u_20 t_20 H_20 locs_20 ht_20 hvm_20 hr_21 hb_20 hz_20 hk_20 hS_20 => ?_)
    rw [ht_20] at hb_20
    obtain ⟨hb_201, hb_202, hb_203, hb_204, hb_205⟩ := hb_20
    have hh_20 : jSt (dC, dI) B base G0 G0 EX5_nameFault s.heap 0 0 [(syntax_6, 12, 5, .int word_14), (syntax_6, 12, 6, .ref told_9), (r0, 7, 1, .ref syntax_6), (r2, 5, 2, .ref hypotheses_3)] [] [(jFs11, jSef dC dI G0)] H_20 locs_20 := ((hh_13.call hb_201 hb_202 hb_203 hb_204 hS_20 rfl (L1 := [(syntax_6, 12, 5, .int word_14), (syntax_6, 12, 6, .ref told_9), (r0, 7, 1, .ref syntax_6), (r2, 5, 2, .ref hypotheses_3)]) [0, 1, 2, 3] rfl rfl (M1 := []) [] rfl rfl (I1 := [(jFs11, jSef dC dI G0)]) [0] rfl rfl).more hb_205)
    clear hh_13 ht_20 hvm_20 hz_20 hk_20 hS_20 hb_201 hb_202 hb_203 hb_204 hb_205
    obtain ⟨hr_21b, hr_21p⟩ := hr_21
    have hr_21' := jb_01 hr_21b
    refine lv_if_eq (tgt := 110) hx hb dX5_nameFault_102 (by decide) (fun c_22 => ?_) (fun c_22 => ?_)
    · skip
      have c_22' : r_21.toInt = 0 := jb_eq (rfl) ((by decide)) c_22
      refine lv_iconst (v := 0) hx hb dX5_nameFault_110 (by decide) ?_
      rw [hQ]
      exact W.iret (v := 0) hx hb hr (fun t ht hW => ⟨⟨0, (), rfl, trivial, ⟨hh_20.rt (M1 := []) [] rfl ht, by rw [ht]; exact hh_20.2.2.2.2.2.2.2.2.sub (L1 := [(jFs11, jSef dC dI G0)]) [0] rfl⟩⟩, by rw [ht]; try exact hh_20.1.1, fun q h9 hq => by rw [ht]; try exact hh_20.1.2.1 q h9 hq⟩) hh_20.1.2.2 dX5_nameFault_111
    · skip
      have c_22' : r_21.toInt ≠ 0 := jb_eq_n (rfl) ((by decide)) c_22
      refine lv_bipush (v := 6) hx hb dX5_nameFault_105 (by decide) ?_
      refine lv_goto (tgt := 111) hx hb dX5_nameFault_107 (by decide) ?_
      rw [hQ]
      exact W.iret (v := 6) hx hb hr (fun t ht hW => ⟨⟨6, (), rfl, trivial, ⟨hh_20.rt (M1 := []) [] rfl ht, by rw [ht]; exact hh_20.2.2.2.2.2.2.2.2.sub (L1 := [(jFs11, jSef dC dI G0)]) [0] rfl⟩⟩, by rw [ht]; try exact hh_20.1.1, fun q h9 hq => by rw [ht]; try exact hh_20.1.2.1 q h9 hq⟩) hh_20.1.2.2 dX5_nameFault_111
  · refine lv_tableIn (off := 84) (tgt := 112) hx hb dX5_nameFault_28 (by omega) (by omega) (by rw [c_15]; rfl) (by decide) ?_
    exact C112  _ _ hh_13 (by first | omega | (refine ⟨?_, ?_⟩ <;> (first | omega | rfl | assumption | decide | exact Or.inl rfl | exact Or.inr rfl | (simp only; omega)))) _ (lv_sub hl [2, 3, 4, 1, 0] rfl)
  · refine lv_tableIn (off := 84) (tgt := 112) hx hb dX5_nameFault_28 (by omega) (by omega) (by rw [c_15]; rfl) (by decide) ?_
    exact C112  _ _ hh_13 (by first | omega | (refine ⟨?_, ?_⟩ <;> (first | omega | rfl | assumption | decide | exact Or.inl rfl | exact Or.inr rfl | (simp only; omega)))) _ (lv_sub hl [2, 3, 4, 1, 0] rfl)
  · refine lv_tableIn (off := 255) (tgt := 283) hx hb dX5_nameFault_28 (by omega) (by omega) (by rw [c_15]; rfl) (by decide) ?_
    refine lv_iconst (v := 0) hx hb dX5_nameFault_283 (by decide) ?_
    rw [hQ]
    exact W.iret (v := 0) hx hb hr (fun t ht hW => ⟨⟨0, (), rfl, trivial, ⟨hh_13.rt (M1 := []) [] rfl ht, by rw [ht]; exact hh_13.2.2.2.2.2.2.2.2.sub (L1 := [(jFs11, jSef dC dI G0)]) [0] rfl⟩⟩, by rw [ht]; try exact hh_13.1.1, fun q h9 hq => by rw [ht]; try exact hh_13.1.2.1 q h9 hq⟩) hh_13.1.2.2 dX5_nameFault_284
  · refine lv_tableIn (off := 255) (tgt := 283) hx hb dX5_nameFault_28 (by omega) (by omega) (by rw [c_15]; rfl) (by decide) ?_
    refine lv_iconst (v := 0) hx hb dX5_nameFault_283 (by decide) ?_
    rw [hQ]
    exact W.iret (v := 0) hx hb hr (fun t ht hW => ⟨⟨0, (), rfl, trivial, ⟨hh_13.rt (M1 := []) [] rfl ht, by rw [ht]; exact hh_13.2.2.2.2.2.2.2.2.sub (L1 := [(jFs11, jSef dC dI G0)]) [0] rfl⟩⟩, by rw [ht]; try exact hh_13.1.1, fun q h9 hq => by rw [ht]; try exact hh_13.1.2.1 q h9 hq⟩) hh_13.1.2.2 dX5_nameFault_284
  · refine lv_tableIn (off := 255) (tgt := 283) hx hb dX5_nameFault_28 (by omega) (by omega) (by rw [c_15]; rfl) (by decide) ?_
    refine lv_iconst (v := 0) hx hb dX5_nameFault_283 (by decide) ?_
    rw [hQ]
    exact W.iret (v := 0) hx hb hr (fun t ht hW => ⟨⟨0, (), rfl, trivial, ⟨hh_13.rt (M1 := []) [] rfl ht, by rw [ht]; exact hh_13.2.2.2.2.2.2.2.2.sub (L1 := [(jFs11, jSef dC dI G0)]) [0] rfl⟩⟩, by rw [ht]; try exact hh_13.1.1, fun q h9 hq => by rw [ht]; try exact hh_13.1.2.1 q h9 hq⟩) hh_13.1.2.2 dX5_nameFault_284
  · refine lv_tableIn (off := 99) (tgt := 127) hx hb dX5_nameFault_28 (by omega) (by omega) (by rw [c_15]; rfl) (by decide) ?_
    refine lv_aload_n hx hb dX5_nameFault_127 rfl (lv_at hl 4 rfl) ?_
    refine lv_ifnull hx hb dX5_nameFault_128 ?_
    refine lv_aload_n hx hb dX5_nameFault_131 rfl (lv_at hl 4 rfl) ?_
    obtain ⟨v_23, hv_23, hh_24⟩ := hh_13.pin (C := RX3) (T := TX3) (N := 4) hB5 rfl (by decide) hg_r2 (i := 1) (by decide) rfl
    clear hh_13
    obtain ⟨names_25, rfl, hg_names_25⟩ := hv_23
    refine j7_read hx hb hown hK (C := RX3) (T := TX3) (N := 4) rfl hly_5_1 hlk_164 (hh_24.at 0 rfl) dX5_nameFault_132 ?_
    refine lv_iload_n hx hb dX5_nameFault_135 rfl (lv_at hl 1 rfl) ?_
    refine va_calli (A0 := jA base) (H0 := s.heap) (va_runS (As := [.ref names_25, .int z_10]) (rest := []) ⟨hx, hb, hml, hown, hts⟩ (uX9_find l dC dI ca base B hB hAp hB101 G0 s.heap names_25 z_10 (n2 / 10)) (va_cwS 2 hts (jgS (jWr_81 _ (List.mem_of_getElem? (i := 18) rfl)) (jWr_30 _ (List.mem_of_getElem? (i := 20) rfl)) (jWr_4 _ (List.mem_of_getElem? (i := 18) rfl)) (jWr_30 _ (List.mem_of_getElem? (i := 21) rfl))) rfl rfl rfl (by decide +kernel) ⟨by rw [← hR]; exact Nat.le_of_ble_eq_true rfl, by rw [← hR]; exact Nat.le_of_ble_eq_true rfl⟩) ⟨fun a U g mk q => by obtain ⟨q0, q1, q2, qK, q10, q11, q12⟩ := q; exact ⟨q0, q1, q2, jG.calling g mk a qK, q10, q11, q12⟩, fun U hU hW => ⟨rfl, hU, hh_24.2.1, hG.step hW hU hh_24.1, hg_names_25, jP.nil, by first | omega | rfl | assumption | decide | exact Or.inl rfl | exact Or.inr rfl | (simp only; omega)⟩⟩ rfl rfl hl.1 rfl (lv_room (Nat.le_of_ble_eq_true rfl)) dX5_nameFault_136 ⟨Nat.zero_le _, Nat.zero_le _⟩) hh_24.1 (fun q _ h => h) (fun q h => h) (fun r_27 u_26 t_26 H_26 locs_26 ht_26 hvm_26 hr_27 hb_26 hz_26 hk_26 hS_26 => ?_)
    rw [ht_26] at hb_26
    obtain ⟨hb_261, hb_262, hb_263, hb_264, hb_265⟩ := hb_26
    have hh_26 : jSt (dC, dI) B base G0 G0 EX5_nameFault s.heap 0 0 [(r2, 5, 1, .ref names_25), (syntax_6, 12, 5, .int word_14), (syntax_6, 12, 6, .ref told_9), (r0, 7, 1, .ref syntax_6), (r2, 5, 2, .ref hypotheses_3)] [] [(jFs11, jSef dC dI G0)] H_26 locs_26 := ((hh_24.call hb_261 hb_262 hb_263 hb_264 hS_26 rfl (L1 := [(r2, 5, 1, .ref names_25), (syntax_6, 12, 5, .int word_14), (syntax_6, 12, 6, .ref told_9), (r0, 7, 1, .ref syntax_6), (r2, 5, 2, .ref hypotheses_3)]) [0, 1, 2, 3, 4] rfl rfl (M1 := []) [] rfl rfl (I1 := [(jFs11, jSef dC dI G0)]) [0] rfl rfl).more hb_265)
    clear hh_24 ht_26 hvm_26 hz_26 hk_26 hS_26 hb_261 hb_262 hb_263 hb_264 hb_265
    obtain ⟨hr_27_0, hr_27_1⟩ := hr_27
    refine lv_if_ge (tgt := 144) hx hb dX5_nameFault_139 (by decide) (fun c_28 => ?_) (fun c_28 => ?_)
    · skip
      have c_28' : r_27.toInt ≥ 0 := jb_ge (rfl) ((by decide)) c_28
      refine lv_aload_n hx hb dX5_nameFault_144 rfl (lv_at hl 3 rfl) ?_
      refine lv_aload_n hx hb dX5_nameFault_145 rfl (lv_at hl 4 rfl) ?_
      refine lv_iload hx hb dX5_nameFault_146 (lv_at hl 0 rfl) ?_
      refine va_calli (A0 := jA base) (H0 := s.heap) (va_runS (As := [.ref r1, .ref r2, .int z_11]) (rest := []) ⟨hx, hb, hml, hown, hts⟩ (uX5_isTaken l dC dI ca base B hB hAp hB5 hB11 hB101 G0 H_26 r1 r2 z_11 n2) (va_cwS 3 hts (jgS (jWr_81 _ (List.mem_of_getElem? (i := 11) rfl)) (jWr_81 _ (List.mem_of_getElem? (i := 12) rfl)) (jWr_2 _ (List.mem_of_getElem? (i := 4) rfl)) (jWr_81 _ (List.mem_of_getElem? (i := 13) rfl))) rfl rfl rfl (by decide +kernel) ⟨by rw [← hR]; exact Nat.le_of_ble_eq_true rfl, by rw [← hR]; exact Nat.le_of_ble_eq_true rfl⟩) ⟨fun a U g mk q => by obtain ⟨q0, q1, q2, qK, q10, q11, q12, q13⟩ := q; exact ⟨q0, q1, q2, jG.calling g mk a qK, q10, q11, q12, q13⟩, fun U hU hW => ⟨rfl, hU, hh_26.2.1, hG.step hW hU hh_26.1, hg_r1, hg_r2, jP.nil, by first | omega | (refine ⟨?_, ?_⟩ <;> (first | omega | rfl | assumption | decide | exact Or.inl rfl | exact Or.inr rfl | (simp only; omega)))⟩⟩ rfl rfl hl.1 rfl (lv_room (Nat.le_of_ble_eq_true rfl)) dX5_nameFault_148 ⟨Nat.zero_le _, Nat.zero_le _⟩) hh_26.1 (fun q _ h => h) (fun q h => h) (fun r_30 u_29 t_29 H_29 locs_29 ht_29 hvm_29 hr_30 hb_29 hz_29 hk_29 hS_29 => ?_)
      rw [ht_29] at hb_29
      obtain ⟨hb_291, hb_292, hb_293, hb_294, hb_295⟩ := hb_29
      have hh_29 : jSt (dC, dI) B base G0 G0 EX5_nameFault s.heap 0 0 [(r2, 5, 1, .ref names_25), (syntax_6, 12, 5, .int word_14), (syntax_6, 12, 6, .ref told_9), (r0, 7, 1, .ref syntax_6), (r2, 5, 2, .ref hypotheses_3)] [] [(jFs11, jSef dC dI G0)] H_29 locs_29 := ((hh_26.call hb_291 hb_292 hb_293 hb_294 hS_29 rfl (L1 := [(r2, 5, 1, .ref names_25), (syntax_6, 12, 5, .int word_14), (syntax_6, 12, 6, .ref told_9), (r0, 7, 1, .ref syntax_6), (r2, 5, 2, .ref hypotheses_3)]) [0, 1, 2, 3, 4] rfl rfl (M1 := []) [] rfl rfl (I1 := [(jFs11, jSef dC dI G0)]) [0] rfl rfl).more hb_295)
      clear hh_26 ht_29 hvm_29 hz_29 hk_29 hS_29 hb_291 hb_292 hb_293 hb_294 hb_295
      obtain ⟨hr_30b, hr_30p⟩ := hr_30
      have hr_30' := jb_01 hr_30b
      have C176 : ∀ (w0_31 : Int32) (H_31 : Heap) (locs_31 : List Loc), jSt (dC, dI) B base G0 G0 EX5_nameFault s.heap 0 0 [(r2, 5, 1, .ref names_25), (syntax_6, 12, 5, .int word_14), (syntax_6, 12, 6, .ref told_9), (r0, 7, 1, .ref syntax_6), (r2, 5, 2, .ref hypotheses_3)] [] [(jFs11, jSef dC dI G0)] H_31 locs_31 → (w0_31 = 0 ∨ w0_31 = 1) → (True) → ∀ ls : Array Slot, lv_has ls 6 [(0, .ref r0), (1, .ref r1), (2, .ref r2), (3, .int z_10), (4, .int z_11)] → W p l e R s m ([.ref r0, .ref r1, .ref r2] : List Value).toArray below meth c H_31 locs_31 0 0 Q (F0 m 176 ls [.int w0_31]) := by
        intro w0_31 H_31 locs_31 hh_31 hb_w0_31 hi_31 ls hl
        have hb_w0_31' := jb_01 hb_w0_31
        refine lv_istore (lv' := [(5, .int w0_31), (0, .ref r0), (1, .ref r1), (2, .ref r2), (3, .int z_10), (4, .int z_11)]) hx hb dX5_nameFault_176 hl (by decide) rfl (fun ls hl => ?_)
        refine lv_iload hx hb dX5_nameFault_178 (lv_at hl 0 rfl) ?_
        refine lv_if_ne (tgt := 197) hx hb dX5_nameFault_180 (by decide) (fun c_32 => ?_) (fun c_32 => ?_)
        · skip
          have c_32' : w0_31.toInt ≠ 0 := jb_ne (rfl) ((by decide)) c_32
          refine lv_bipush (v := 6) hx hb dX5_nameFault_197 (by decide) ?_
          refine lv_goto (tgt := 203) hx hb dX5_nameFault_199 (by decide) ?_
          rw [hQ]
          exact W.iret (v := 6) hx hb hr (fun t ht hW => ⟨⟨6, (), rfl, trivial, ⟨hh_31.rt (M1 := []) [] rfl ht, by rw [ht]; exact hh_31.2.2.2.2.2.2.2.2.sub (L1 := [(jFs11, jSef dC dI G0)]) [0] rfl⟩⟩, by rw [ht]; try exact hh_31.1.1, fun q h9 hq => by rw [ht]; try exact hh_31.1.2.1 q h9 hq⟩) hh_31.1.2.2 dX5_nameFault_203
        · skip
          have c_32' : w0_31.toInt = 0 := jb_ne_n (rfl) ((by decide)) c_32
          refine lv_iload hx hb dX5_nameFault_183 (lv_at hl 5 rfl) ?_
          refine lv_aload_n hx hb dX5_nameFault_185 rfl (lv_at hl 1 rfl) ?_
          refine j7_read hx hb hown hK (C := RX5) (T := TX5) (N := 11) rfl hly_7_1 hlk_23 (hh_31.at 3 rfl) dX5_nameFault_186 ?_
          refine j7_read hx hb hown hK (C := RX10) (T := TX10) (N := 11) rfl hly_12_6 hlk_93 (hh_31.at 2 rfl) dX5_nameFault_189 ?_
          refine lv_iconst (v := 2) hx hb dX5_nameFault_192 (by decide) ?_
          refine j7_iald hx hb hK hh_31 hB292 1 rfl (by decide) hg_told_9 (x := 2) ((by decide)) (by omega) dX5_nameFault_193 (fun z_33 (hz_33 : 0 ≤ z_33.toInt ∧ z_33.toInt ≤ 8191) => ?_)
          refine lv_icmp_ne (tgt := 202) hx hb dX5_nameFault_194 (by decide) (fun c_34 => ?_) (fun c_34 => ?_)
          · skip
            have c_34' : z_11.toInt ≠ z_33.toInt := jb_ne (rfl) (rfl) c_34
            refine lv_iconst (v := 0) hx hb dX5_nameFault_202 (by decide) ?_
            rw [hQ]
            exact W.iret (v := 0) hx hb hr (fun t ht hW => ⟨⟨0, (), rfl, trivial, ⟨hh_31.rt (M1 := []) [] rfl ht, by rw [ht]; exact hh_31.2.2.2.2.2.2.2.2.sub (L1 := [(jFs11, jSef dC dI G0)]) [0] rfl⟩⟩, by rw [ht]; try exact hh_31.1.1, fun q h9 hq => by rw [ht]; try exact hh_31.1.2.1 q h9 hq⟩) hh_31.1.2.2 dX5_nameFault_203
          · skip
            have c_34' : z_11.toInt = z_33.toInt := jb_ne_n (rfl) (rfl) c_34
            refine lv_bipush (v := 6) hx hb dX5_nameFault_197 (by decide) ?_
            refine lv_goto (tgt := 203) hx hb dX5_nameFault_199 (by decide) ?_
            rw [hQ]
            exact W.iret (v := 6) hx hb hr (fun t ht hW => ⟨⟨6, (), rfl, trivial, ⟨hh_31.rt (M1 := []) [] rfl ht, by rw [ht]; exact hh_31.2.2.2.2.2.2.2.2.sub (L1 := [(jFs11, jSef dC dI G0)]) [0] rfl⟩⟩, by rw [ht]; try exact hh_31.1.1, fun q h9 hq => by rw [ht]; try exact hh_31.1.2.1 q h9 hq⟩) hh_31.1.2.2 dX5_nameFault_203
      refine lv_if_ne (tgt := 171) hx hb dX5_nameFault_151 (by decide) (fun c_35 => ?_) (fun c_35 => ?_)
      · skip
        have c_35' : r_30.toInt ≠ 0 := jb_ne (rfl) ((by decide)) c_35
        refine lv_iconst (v := 1) hx hb dX5_nameFault_171 (by decide) ?_
        refine lv_goto (tgt := 176) hx hb dX5_nameFault_172 (by decide) ?_
        exact C176 1 _ _ hh_29 (Or.inr rfl) (trivial) _ (lv_sub hl [2, 3, 4, 1, 0] rfl)
      · skip
        have c_35' : r_30.toInt = 0 := jb_ne_n (rfl) ((by decide)) c_35
        refine lv_aload_n hx hb dX5_nameFault_154 rfl (lv_at hl 3 rfl) ?_
        refine lv_aload_n hx hb dX5_nameFault_155 rfl (lv_at hl 4 rfl) ?_
        refine lv_aload_n hx hb dX5_nameFault_156 rfl (lv_at hl 2 rfl) ?_
        refine j7_read hx hb hown hK (C := RX5) (T := TX5) (N := 11) rfl hly_7_1 hlk_23 (hh_29.at 3 rfl) dX5_nameFault_157 ?_
        refine j7_read hx hb hown hK (C := RX10) (T := TX10) (N := 11) rfl hly_12_6 hlk_93 (hh_29.at 2 rfl) dX5_nameFault_160 ?_
        refine lv_iconst (v := 2) hx hb dX5_nameFault_163 (by decide) ?_
        refine j7_iald hx hb hK hh_29 hB292 1 rfl (by decide) hg_told_9 (x := 2) ((by decide)) (by omega) dX5_nameFault_164 (fun z_36 (hz_36 : 0 ≤ z_36.toInt ∧ z_36.toInt ≤ 8191) => ?_)
        refine va_calli (A0 := jA base) (H0 := s.heap) (va_runS (As := [.ref r1, .ref r2, .int z_36]) (rest := []) ⟨hx, hb, hml, hown, hts⟩ (uX5_isTaken l dC dI ca base B hB hAp hB5 hB11 hB101 G0 H_29 r1 r2 z_36 n2) (va_cwS 3 hts (jgS (jWr_81 _ (List.mem_of_getElem? (i := 11) rfl)) (jWr_81 _ (List.mem_of_getElem? (i := 12) rfl)) (jWr_2 _ (List.mem_of_getElem? (i := 4) rfl)) (jWr_81 _ (List.mem_of_getElem? (i := 13) rfl))) rfl rfl rfl (by decide +kernel) ⟨by rw [← hR]; exact Nat.le_of_ble_eq_true rfl, by rw [← hR]; exact Nat.le_of_ble_eq_true rfl⟩) ⟨fun a U g mk q => by obtain ⟨q0, q1, q2, qK, q10, q11, q12, q13⟩ := q; exact ⟨q0, q1, q2, jG.calling g mk a qK, q10, q11, q12, q13⟩, fun U hU hW => ⟨rfl, hU, hh_29.2.1, hG.step hW hU hh_29.1, hg_r1, hg_r2, jP.nil, by first | omega | (refine ⟨?_, ?_⟩ <;> (first | omega | rfl | assumption | decide | exact Or.inl rfl | exact Or.inr rfl | (simp only; omega)))⟩⟩ rfl rfl hl.1 rfl (lv_room (Nat.le_of_ble_eq_true rfl)) dX5_nameFault_165 ⟨Nat.zero_le _, Nat.zero_le _⟩) hh_29.1 (fun q _ h => h) (fun q h => h) (fun r_38 u_37 t_37 H_37 locs_37 ht_37 hvm_37 hr_38 hb_37 hz_37 hk_37 hS_37 => ?_)
        rw [ht_37] at hb_37
        obtain ⟨hb_371, hb_372, hb_373, hb_374, hb_375⟩ := hb_37
        have hh_37 : jSt (dC, dI) B base G0 G0 EX5_nameFault s.heap 0 0 [(r2, 5, 1, .ref names_25), (syntax_6, 12, 5, .int word_14), (syntax_6, 12, 6, .ref told_9), (r0, 7, 1, .ref syntax_6), (r2, 5, 2, .ref hypotheses_3)] [] [(jFs11, jSef dC dI G0)] H_37 locs_37 := ((hh_29.call hb_371 hb_372 hb_373 hb_374 hS_37 rfl (L1 := [(r2, 5, 1, .ref names_25), (syntax_6, 12, 5, .int word_14), (syntax_6, 12, 6, .ref told_9), (r0, 7, 1, .ref syntax_6), (r2, 5, 2, .ref hypotheses_3)]) [0, 1, 2, 3, 4] rfl rfl (M1 := []) [] rfl rfl (I1 := [(jFs11, jSef dC dI G0)]) [0] rfl rfl).more hb_375)
        clear hh_29 ht_37 hvm_37 hz_37 hk_37 hS_37 hb_371 hb_372 hb_373 hb_374 hb_375
        obtain ⟨hr_38b, hr_38p⟩ := hr_38
        have hr_38' := jb_01 hr_38b
        refine lv_if_eq (tgt := 175) hx hb dX5_nameFault_168 (by decide) (fun c_39 => ?_) (fun c_39 => ?_)
        · skip
          have c_39' : r_38.toInt = 0 := jb_eq (rfl) ((by decide)) c_39
          refine lv_iconst (v := 0) hx hb dX5_nameFault_175 (by decide) ?_
          exact C176 0 _ _ hh_37 (Or.inl rfl) (trivial) _ (lv_sub hl [2, 3, 4, 1, 0] rfl)
        · skip
          have c_39' : r_38.toInt ≠ 0 := jb_eq_n (rfl) ((by decide)) c_39
          refine lv_iconst (v := 1) hx hb dX5_nameFault_171 (by decide) ?_
          refine lv_goto (tgt := 176) hx hb dX5_nameFault_172 (by decide) ?_
          exact C176 1 _ _ hh_37 (Or.inr rfl) (trivial) _ (lv_sub hl [2, 3, 4, 1, 0] rfl)
    · skip
      have c_28' : r_27.toInt < 0 := jb_ge_n (rfl) ((by decide)) c_28
      refine lv_iconst (v := 5) hx hb dX5_nameFault_142 (by decide) ?_
      rw [hQ]
      exact W.iret (v := 5) hx hb hr (fun t ht hW => ⟨⟨5, (), rfl, trivial, ⟨hh_26.rt (M1 := []) [] rfl ht, by rw [ht]; exact hh_26.2.2.2.2.2.2.2.2.sub (L1 := [(jFs11, jSef dC dI G0)]) [0] rfl⟩⟩, by rw [ht]; try exact hh_26.1.1, fun q h9 hq => by rw [ht]; try exact hh_26.1.2.1 q h9 hq⟩) hh_26.1.2.2 dX5_nameFault_143
  · refine lv_tableIn (off := 84) (tgt := 112) hx hb dX5_nameFault_28 (by omega) (by omega) (by rw [c_15]; rfl) (by decide) ?_
    exact C112  _ _ hh_13 (by first | omega | (refine ⟨?_, ?_⟩ <;> (first | omega | rfl | assumption | decide | exact Or.inl rfl | exact Or.inr rfl | (simp only; omega)))) _ (lv_sub hl [2, 3, 4, 1, 0] rfl)
  · refine lv_tableIn (off := 176) (tgt := 204) hx hb dX5_nameFault_28 (by omega) (by omega) (by rw [c_15]; rfl) (by decide) ?_
    refine lv_aload_n hx hb dX5_nameFault_204 rfl (lv_at hl 2 rfl) ?_
    refine lv_aload_n hx hb dX5_nameFault_205 rfl (lv_at hl 3 rfl) ?_
    refine lv_aload_n hx hb dX5_nameFault_206 rfl (lv_at hl 4 rfl) ?_
    refine va_calli (A0 := jA base) (H0 := s.heap) (va_runV (As := [.ref r1, .ref r2]) (rest := []) ⟨hx, hb, hml, hown, hts⟩ (uX5_isResolved l dC dI ca base B hB hAp hB5 hB7 hB11 hB12 hB101 hB280 G0 s.heap r0 r1 r2 n2) (cwV 2 hts (jgV (jWr_82 _ (List.mem_of_getElem? (i := 13) rfl)) (jWr_82 _ (List.mem_of_getElem? (i := 14) rfl)) (jWr_82 _ (List.mem_of_getElem? (i := 15) rfl)) (jWr_2 _ (List.mem_of_getElem? (i := 4) rfl)) (jWr_82 _ (List.mem_of_getElem? (i := 16) rfl))) rfl rfl rfl (by decide +kernel) ⟨by rw [← hR]; exact Nat.le_of_ble_eq_true rfl, by rw [← hR]; exact Nat.le_of_ble_eq_true rfl⟩) ⟨fun a U g mk q => by obtain ⟨q0, q1, q2, qK, q10, q11, q12, q13, q14⟩ := q; exact ⟨q0, q1, q2, jG.calling g mk a qK, q10, q11, q12, q13, q14⟩, hh_13.recv (C := RX5) (T := TX5) (N := 11) hB7 rfl (by decide) hg_r0 hK, fun U hU hW => ⟨rfl, hU, hh_13.2.1, hG.step hW hU hh_13.1, hg_r0, hg_r1, hg_r2, jP.nil, by first | omega | rfl | assumption | decide | exact Or.inl rfl | exact Or.inr rfl | (simp only; omega)⟩⟩ rfl rfl hl.1 rfl (lv_room (Nat.le_of_ble_eq_true rfl)) dX5_nameFault_207 ⟨Nat.zero_le _, Nat.zero_le _⟩) hh_13.1 (fun q _ h => h) (fun q h => h) (fun r_41 u_40 t_40 H_40 locs_40 ht_40 hvm_40 hr_41 hb_40 hz_40 hk_40 hS_40 => ?_)
    rw [ht_40] at hb_40
    obtain ⟨hb_401, hb_402, hb_403, hb_404, hb_405⟩ := hb_40
    have hh_40 : jSt (dC, dI) B base G0 G0 EX5_nameFault s.heap 0 0 [(syntax_6, 12, 5, .int word_14), (syntax_6, 12, 6, .ref told_9), (r0, 7, 1, .ref syntax_6), (r2, 5, 2, .ref hypotheses_3)] [] [(jFs11, jSef dC dI G0)] H_40 locs_40 := ((hh_13.call hb_401 hb_402 hb_403 hb_404 hS_40 rfl (L1 := [(syntax_6, 12, 5, .int word_14), (syntax_6, 12, 6, .ref told_9), (r0, 7, 1, .ref syntax_6), (r2, 5, 2, .ref hypotheses_3)]) [0, 1, 2, 3] rfl rfl (M1 := []) [] rfl rfl (I1 := [(jFs11, jSef dC dI G0)]) [0] rfl rfl).more hb_405)
    clear hh_13 ht_40 hvm_40 hz_40 hk_40 hS_40 hb_401 hb_402 hb_403 hb_404 hb_405
    obtain ⟨hr_41b, hr_41p⟩ := hr_41
    have hr_41' := jb_01 hr_41b
    refine lv_if_eq (tgt := 217) hx hb dX5_nameFault_210 (by decide) (fun c_42 => ?_) (fun c_42 => ?_)
    · skip
      have c_42' : r_41.toInt = 0 := jb_eq (rfl) ((by decide)) c_42
      refine lv_iconst (v := 5) hx hb dX5_nameFault_217 (by decide) ?_
      rw [hQ]
      exact W.iret (v := 5) hx hb hr (fun t ht hW => ⟨⟨5, (), rfl, trivial, ⟨hh_40.rt (M1 := []) [] rfl ht, by rw [ht]; exact hh_40.2.2.2.2.2.2.2.2.sub (L1 := [(jFs11, jSef dC dI G0)]) [0] rfl⟩⟩, by rw [ht]; try exact hh_40.1.1, fun q h9 hq => by rw [ht]; try exact hh_40.1.2.1 q h9 hq⟩) hh_40.1.2.2 dX5_nameFault_218
    · skip
      have c_42' : r_41.toInt ≠ 0 := jb_eq_n (rfl) ((by decide)) c_42
      refine lv_iconst (v := 0) hx hb dX5_nameFault_213 (by decide) ?_
      refine lv_goto (tgt := 218) hx hb dX5_nameFault_214 (by decide) ?_
      rw [hQ]
      exact W.iret (v := 0) hx hb hr (fun t ht hW => ⟨⟨0, (), rfl, trivial, ⟨hh_40.rt (M1 := []) [] rfl ht, by rw [ht]; exact hh_40.2.2.2.2.2.2.2.2.sub (L1 := [(jFs11, jSef dC dI G0)]) [0] rfl⟩⟩, by rw [ht]; try exact hh_40.1.1, fun q h9 hq => by rw [ht]; try exact hh_40.1.2.1 q h9 hq⟩) hh_40.1.2.2 dX5_nameFault_218
  · refine lv_tableIn (off := 191) (tgt := 219) hx hb dX5_nameFault_28 (by omega) (by omega) (by rw [c_15]; rfl) (by decide) ?_
    refine lv_aload_n hx hb dX5_nameFault_219 rfl (lv_at hl 3 rfl) ?_
    refine lv_aload_n hx hb dX5_nameFault_220 rfl (lv_at hl 4 rfl) ?_
    refine lv_iload_n hx hb dX5_nameFault_221 rfl (lv_at hl 1 rfl) ?_
    refine j_callx (A0 := jA base) (H0 := s.heap) (va_runS (As := [.ref r1, .ref r2, .int z_10]) (rest := []) ⟨hx, hb, hml, hown, hts⟩ (uX5_named l dC dI ca base B hB hAp hB5 hB11 hB101 hB280 hB313 G0 s.heap r1 r2 z_10 n2) (va_cwS 3 hts (jgS (jWr_84 _ (List.mem_of_getElem? (i := 7) rfl)) (jWr_84 _ (List.mem_of_getElem? (i := 8) rfl)) (jWr_2 _ (List.mem_of_getElem? (i := 4) rfl)) (jWr_84 _ (List.mem_of_getElem? (i := 9) rfl))) rfl rfl rfl (by decide +kernel) ⟨by rw [← hR]; exact Nat.le_of_ble_eq_true rfl, by rw [← hR]; exact Nat.le_of_ble_eq_true rfl⟩) ⟨fun a U g mk q => by obtain ⟨q0, q1, q2, qK, q10, q11, q12, q13, q14, q15⟩ := q; exact ⟨q0, q1, q2, jG.calling g mk a qK, (jK5.moved (Vm.Alike.refl U.vm) q10), q11, q12, q13, q14, q15⟩, fun U hU hW => ⟨rfl, hU, hh_13.2.1, hG.step hW hU hh_13.1, jK5.moved hW.alike hK5, hg_r1, hg_r2, jP.nil, (hh_13.2.2.2.2.2.2.2.2.sub (L1 := [(jFs11, jSef dC dI G0)]) [0] rfl), by first | omega | rfl | assumption | decide | exact Or.inl rfl | exact Or.inr rfl | (simp only; omega)⟩⟩ rfl rfl hl.1 rfl (lv_room (Nat.le_of_ble_eq_true rfl)) dX5_nameFault_222 ⟨Nat.zero_le _, Nat.zero_le _⟩) hh_13.1 (fun q _ h => h) (fun q h => h) (fun r_44 u_43 t_43 H_43 locs_43 ht_43 hvm_43 hr_44 hb_43 hz_43 hk_43 hS_43 => ?_)
    rw [ht_43] at hb_43
    obtain ⟨hb_43, hbE_43⟩ := hb_43
    obtain ⟨hb_431, hb_432, hb_433, hb_434, hb_435⟩ := hb_43
    have hh_43 : jSt (dC, dI) B base G0 G0 EX5_nameFault s.heap 0 0 [(syntax_6, 12, 5, .int word_14), (syntax_6, 12, 6, .ref told_9), (r0, 7, 1, .ref syntax_6), (r2, 5, 2, .ref hypotheses_3)] [] [(jFs11, jSef dC dI G0)] H_43 locs_43 := (((hh_13.call hb_431 hb_432 hb_433 hb_434 hS_43 rfl (L1 := [(syntax_6, 12, 5, .int word_14), (syntax_6, 12, 6, .ref told_9), (r0, 7, 1, .ref syntax_6), (r2, 5, 2, .ref hypotheses_3)]) [0, 1, 2, 3] rfl rfl (M1 := []) [] rfl rfl (I1 := []) [] rfl rfl).more hb_435)).addIs hbE_43
    clear hh_13 ht_43 hvm_43 hz_43 hk_43 hS_43 hb_431 hb_432 hb_433 hb_434 hb_435
    clear  hbE_43
    rcases hr_44 with rfl | ⟨ret_45, nret_45, rfl, hg_ret_45, hn_ret_45⟩
    · skip
      refine lv_ifnullN (tgt := 237) hx hb dX5_nameFault_225 (by decide) ?_
      refine lv_iconst (v := 5) hx hb dX5_nameFault_237 (by decide) ?_
      rw [hQ]
      exact W.iret (v := 5) hx hb hr (fun t ht hW => ⟨⟨5, (), rfl, trivial, ⟨hh_43.rt (M1 := []) [] rfl ht, by rw [ht]; exact hh_43.2.2.2.2.2.2.2.2.sub (L1 := [(jFs11, jSef dC dI G0)]) [0] rfl⟩⟩, by rw [ht]; try exact hh_43.1.1, fun q h9 hq => by rw [ht]; try exact hh_43.1.2.1 q h9 hq⟩) hh_43.1.2.2 dX5_nameFault_238
    · skip
      refine lv_ifnull hx hb dX5_nameFault_225 ?_
      refine lv_aload_n hx hb dX5_nameFault_228 rfl (lv_at hl 2 rfl) ?_
      refine lv_aload_n hx hb dX5_nameFault_229 rfl (lv_at hl 3 rfl) ?_
      refine lv_aload_n hx hb dX5_nameFault_230 rfl (lv_at hl 4 rfl) ?_
      refine va_calli (A0 := jA base) (H0 := s.heap) (va_runV (As := [.ref r1, .ref r2]) (rest := []) ⟨hx, hb, hml, hown, hts⟩ (uX5_isResolved l dC dI ca base B hB hAp hB5 hB7 hB11 hB12 hB101 hB280 G0 H_43 r0 r1 r2 n2) (cwV 2 hts (jgV (jWr_82 _ (List.mem_of_getElem? (i := 13) rfl)) (jWr_82 _ (List.mem_of_getElem? (i := 14) rfl)) (jWr_82 _ (List.mem_of_getElem? (i := 15) rfl)) (jWr_2 _ (List.mem_of_getElem? (i := 4) rfl)) (jWr_82 _ (List.mem_of_getElem? (i := 16) rfl))) rfl rfl rfl (by decide +kernel) ⟨by rw [← hR]; exact Nat.le_of_ble_eq_true rfl, by rw [← hR]; exact Nat.le_of_ble_eq_true rfl⟩) ⟨fun a U g mk q => by obtain ⟨q0, q1, q2, qK, q10, q11, q12, q13, q14⟩ := q; exact ⟨q0, q1, q2, jG.calling g mk a qK, q10, q11, q12, q13, q14⟩, hh_43.recv (C := RX5) (T := TX5) (N := 11) hB7 rfl (by decide) hg_r0 hK, fun U hU hW => ⟨rfl, hU, hh_43.2.1, hG.step hW hU hh_43.1, hg_r0, hg_r1, hg_r2, jP.nil, by first | omega | rfl | assumption | decide | exact Or.inl rfl | exact Or.inr rfl | (simp only; omega)⟩⟩ rfl rfl hl.1 rfl (lv_room (Nat.le_of_ble_eq_true rfl)) dX5_nameFault_231 ⟨Nat.zero_le _, Nat.zero_le _⟩) hh_43.1 (fun q _ h => h) (fun q h => h) (fun r_47 u_46 t_46 H_46 locs_46 ht_46 hvm_46 hr_47 hb_46 hz_46 hk_46 hS_46 => ?_)
      rw [ht_46] at hb_46
      obtain ⟨hb_461, hb_462, hb_463, hb_464, hb_465⟩ := hb_46
      have hh_46 : jSt (dC, dI) B base G0 G0 EX5_nameFault s.heap 0 0 [(syntax_6, 12, 5, .int word_14), (syntax_6, 12, 6, .ref told_9), (r0, 7, 1, .ref syntax_6), (r2, 5, 2, .ref hypotheses_3)] [] [(jFs11, jSef dC dI G0)] H_46 locs_46 := ((hh_43.call hb_461 hb_462 hb_463 hb_464 hS_46 rfl (L1 := [(syntax_6, 12, 5, .int word_14), (syntax_6, 12, 6, .ref told_9), (r0, 7, 1, .ref syntax_6), (r2, 5, 2, .ref hypotheses_3)]) [0, 1, 2, 3] rfl rfl (M1 := []) [] rfl rfl (I1 := [(jFs11, jSef dC dI G0)]) [0] rfl rfl).more hb_465)
      clear hh_43 ht_46 hvm_46 hz_46 hk_46 hS_46 hb_461 hb_462 hb_463 hb_464 hb_465
      obtain ⟨hr_47b, hr_47p⟩ := hr_47
      have hr_47' := jb_01 hr_47b
      refine lv_if_ne (tgt := 239) hx hb dX5_nameFault_234 (by decide) (fun c_48 => ?_) (fun c_48 => ?_)
      · skip
        have c_48' : r_47.toInt ≠ 0 := jb_ne (rfl) ((by decide)) c_48
        refine lv_aload_n hx hb dX5_nameFault_239 rfl (lv_at hl 3 rfl) ?_
        refine lv_aload_n hx hb dX5_nameFault_240 rfl (lv_at hl 4 rfl) ?_
        refine lv_iload hx hb dX5_nameFault_241 (lv_at hl 0 rfl) ?_
        refine va_calli (A0 := jA base) (H0 := s.heap) (va_runS (As := [.ref r1, .ref r2, .int z_11]) (rest := []) ⟨hx, hb, hml, hown, hts⟩ (uX5_isTaken l dC dI ca base B hB hAp hB5 hB11 hB101 G0 H_46 r1 r2 z_11 n2) (va_cwS 3 hts (jgS (jWr_81 _ (List.mem_of_getElem? (i := 11) rfl)) (jWr_81 _ (List.mem_of_getElem? (i := 12) rfl)) (jWr_2 _ (List.mem_of_getElem? (i := 4) rfl)) (jWr_81 _ (List.mem_of_getElem? (i := 13) rfl))) rfl rfl rfl (by decide +kernel) ⟨by rw [← hR]; exact Nat.le_of_ble_eq_true rfl, by rw [← hR]; exact Nat.le_of_ble_eq_true rfl⟩) ⟨fun a U g mk q => by obtain ⟨q0, q1, q2, qK, q10, q11, q12, q13⟩ := q; exact ⟨q0, q1, q2, jG.calling g mk a qK, q10, q11, q12, q13⟩, fun U hU hW => ⟨rfl, hU, hh_46.2.1, hG.step hW hU hh_46.1, hg_r1, hg_r2, jP.nil, by first | omega | (refine ⟨?_, ?_⟩ <;> (first | omega | rfl | assumption | decide | exact Or.inl rfl | exact Or.inr rfl | (simp only; omega)))⟩⟩ rfl rfl hl.1 rfl (lv_room (Nat.le_of_ble_eq_true rfl)) dX5_nameFault_243 ⟨Nat.zero_le _, Nat.zero_le _⟩) hh_46.1 (fun q _ h => h) (fun q h => h) (fun r_50 u_49 t_49 H_49 locs_49 ht_49 hvm_49 hr_50 hb_49 hz_49 hk_49 hS_49 => ?_)
        rw [ht_49] at hb_49
        obtain ⟨hb_491, hb_492, hb_493, hb_494, hb_495⟩ := hb_49
        have hh_49 : jSt (dC, dI) B base G0 G0 EX5_nameFault s.heap 0 0 [(syntax_6, 12, 5, .int word_14), (syntax_6, 12, 6, .ref told_9), (r0, 7, 1, .ref syntax_6), (r2, 5, 2, .ref hypotheses_3)] [] [(jFs11, jSef dC dI G0)] H_49 locs_49 := ((hh_46.call hb_491 hb_492 hb_493 hb_494 hS_49 rfl (L1 := [(syntax_6, 12, 5, .int word_14), (syntax_6, 12, 6, .ref told_9), (r0, 7, 1, .ref syntax_6), (r2, 5, 2, .ref hypotheses_3)]) [0, 1, 2, 3] rfl rfl (M1 := []) [] rfl rfl (I1 := [(jFs11, jSef dC dI G0)]) [0] rfl rfl).more hb_495)
        clear hh_46 ht_49 hvm_49 hz_49 hk_49 hS_49 hb_491 hb_492 hb_493 hb_494 hb_495
        obtain ⟨hr_50b, hr_50p⟩ := hr_50
        have hr_50' := jb_01 hr_50b
        refine lv_if_eq (tgt := 254) hx hb dX5_nameFault_246 (by decide) (fun c_51 => ?_) (fun c_51 => ?_)
        · skip
          have c_51' : r_50.toInt = 0 := jb_eq (rfl) ((by decide)) c_51
          refine lv_iconst (v := 0) hx hb dX5_nameFault_254 (by decide) ?_
          rw [hQ]
          exact W.iret (v := 0) hx hb hr (fun t ht hW => ⟨⟨0, (), rfl, trivial, ⟨hh_49.rt (M1 := []) [] rfl ht, by rw [ht]; exact hh_49.2.2.2.2.2.2.2.2.sub (L1 := [(jFs11, jSef dC dI G0)]) [0] rfl⟩⟩, by rw [ht]; try exact hh_49.1.1, fun q h9 hq => by rw [ht]; try exact hh_49.1.2.1 q h9 hq⟩) hh_49.1.2.2 dX5_nameFault_255
        · skip
          have c_51' : r_50.toInt ≠ 0 := jb_eq_n (rfl) ((by decide)) c_51
          refine lv_bipush (v := 6) hx hb dX5_nameFault_249 (by decide) ?_
          refine lv_goto (tgt := 255) hx hb dX5_nameFault_251 (by decide) ?_
          rw [hQ]
          exact W.iret (v := 6) hx hb hr (fun t ht hW => ⟨⟨6, (), rfl, trivial, ⟨hh_49.rt (M1 := []) [] rfl ht, by rw [ht]; exact hh_49.2.2.2.2.2.2.2.2.sub (L1 := [(jFs11, jSef dC dI G0)]) [0] rfl⟩⟩, by rw [ht]; try exact hh_49.1.1, fun q h9 hq => by rw [ht]; try exact hh_49.1.2.1 q h9 hq⟩) hh_49.1.2.2 dX5_nameFault_255
      · skip
        have c_48' : r_47.toInt = 0 := jb_ne_n (rfl) ((by decide)) c_48
        refine lv_iconst (v := 5) hx hb dX5_nameFault_237 (by decide) ?_
        rw [hQ]
        exact W.iret (v := 5) hx hb hr (fun t ht hW => ⟨⟨5, (), rfl, trivial, ⟨hh_46.rt (M1 := []) [] rfl ht, by rw [ht]; exact hh_46.2.2.2.2.2.2.2.2.sub (L1 := [(jFs11, jSef dC dI G0)]) [0] rfl⟩⟩, by rw [ht]; try exact hh_46.1.1, fun q h9 hq => by rw [ht]; try exact hh_46.1.2.1 q h9 hq⟩) hh_46.1.2.2 dX5_nameFault_238
  · refine lv_tableIn (off := 255) (tgt := 283) hx hb dX5_nameFault_28 (by omega) (by omega) (by rw [c_15]; rfl) (by decide) ?_
    refine lv_iconst (v := 0) hx hb dX5_nameFault_283 (by decide) ?_
    rw [hQ]
    exact W.iret (v := 0) hx hb hr (fun t ht hW => ⟨⟨0, (), rfl, trivial, ⟨hh_13.rt (M1 := []) [] rfl ht, by rw [ht]; exact hh_13.2.2.2.2.2.2.2.2.sub (L1 := [(jFs11, jSef dC dI G0)]) [0] rfl⟩⟩, by rw [ht]; try exact hh_13.1.1, fun q h9 hq => by rw [ht]; try exact hh_13.1.2.1 q h9 hq⟩) hh_13.1.2.2 dX5_nameFault_284
  · refine lv_tableIn (off := 84) (tgt := 112) hx hb dX5_nameFault_28 (by omega) (by omega) (by rw [c_15]; rfl) (by decide) ?_
    exact C112  _ _ hh_13 (by first | omega | (refine ⟨?_, ?_⟩ <;> (first | omega | rfl | assumption | decide | exact Or.inl rfl | exact Or.inr rfl | (simp only; omega)))) _ (lv_sub hl [2, 3, 4, 1, 0] rfl)
  · refine lv_tableIn (off := 228) (tgt := 256) hx hb dX5_nameFault_28 (by omega) (by omega) (by rw [c_15]; rfl) (by decide) ?_
    refine lv_aload_n hx hb dX5_nameFault_256 rfl (lv_at hl 3 rfl) ?_
    refine lv_aload_n hx hb dX5_nameFault_257 rfl (lv_at hl 4 rfl) ?_
    refine lv_iload_n hx hb dX5_nameFault_258 rfl (lv_at hl 1 rfl) ?_
    refine va_calli (A0 := jA base) (H0 := s.heap) (va_runS (As := [.ref r1, .ref r2, .int z_10]) (rest := []) ⟨hx, hb, hml, hown, hts⟩ (uX5_isTaken l dC dI ca base B hB hAp hB5 hB11 hB101 G0 s.heap r1 r2 z_10 n2) (va_cwS 3 hts (jgS (jWr_81 _ (List.mem_of_getElem? (i := 11) rfl)) (jWr_81 _ (List.mem_of_getElem? (i := 12) rfl)) (jWr_2 _ (List.mem_of_getElem? (i := 4) rfl)) (jWr_81 _ (List.mem_of_getElem? (i := 13) rfl))) rfl rfl rfl (by decide +kernel) ⟨by rw [← hR]; exact Nat.le_of_ble_eq_true rfl, by rw [← hR]; exact Nat.le_of_ble_eq_true rfl⟩) ⟨fun a U g mk q => by obtain ⟨q0, q1, q2, qK, q10, q11, q12, q13⟩ := q; exact ⟨q0, q1, q2, jG.calling g mk a qK, q10, q11, q12, q13⟩, fun U hU hW => ⟨rfl, hU, hh_13.2.1, hG.step hW hU hh_13.1, hg_r1, hg_r2, jP.nil, by first | omega | (refine ⟨?_, ?_⟩ <;> (first | omega | rfl | assumption | decide | exact Or.inl rfl | exact Or.inr rfl | (simp only; omega)))⟩⟩ rfl rfl hl.1 rfl (lv_room (Nat.le_of_ble_eq_true rfl)) dX5_nameFault_259 ⟨Nat.zero_le _, Nat.zero_le _⟩) hh_13.1 (fun q _ h => h) (fun q h => h) (fun r_53 u_52 t_52 H_52 locs_52 ht_52 hvm_52 hr_53 hb_52 hz_52 hk_52 hS_52 => ?_)
    rw [ht_52] at hb_52
    obtain ⟨hb_521, hb_522, hb_523, hb_524, hb_525⟩ := hb_52
    have hh_52 : jSt (dC, dI) B base G0 G0 EX5_nameFault s.heap 0 0 [(syntax_6, 12, 5, .int word_14), (syntax_6, 12, 6, .ref told_9), (r0, 7, 1, .ref syntax_6), (r2, 5, 2, .ref hypotheses_3)] [] [(jFs11, jSef dC dI G0)] H_52 locs_52 := ((hh_13.call hb_521 hb_522 hb_523 hb_524 hS_52 rfl (L1 := [(syntax_6, 12, 5, .int word_14), (syntax_6, 12, 6, .ref told_9), (r0, 7, 1, .ref syntax_6), (r2, 5, 2, .ref hypotheses_3)]) [0, 1, 2, 3] rfl rfl (M1 := []) [] rfl rfl (I1 := [(jFs11, jSef dC dI G0)]) [0] rfl rfl).more hb_525)
    clear hh_13 ht_52 hvm_52 hz_52 hk_52 hS_52 hb_521 hb_522 hb_523 hb_524 hb_525
    obtain ⟨hr_53b, hr_53p⟩ := hr_53
    have hr_53' := jb_01 hr_53b
    refine lv_if_eq (tgt := 268) hx hb dX5_nameFault_262 (by decide) (fun c_54 => ?_) (fun c_54 => ?_)
    · skip
      have c_54' : r_53.toInt = 0 := jb_eq (rfl) ((by decide)) c_54
      refine lv_aload_n hx hb dX5_nameFault_268 rfl (lv_at hl 2 rfl) ?_
      refine lv_aload_n hx hb dX5_nameFault_269 rfl (lv_at hl 3 rfl) ?_
      refine lv_aload_n hx hb dX5_nameFault_270 rfl (lv_at hl 4 rfl) ?_
      refine va_calli (A0 := jA base) (H0 := s.heap) (va_runV (As := [.ref r1, .ref r2]) (rest := []) ⟨hx, hb, hml, hown, hts⟩ (uX5_isResolved l dC dI ca base B hB hAp hB5 hB7 hB11 hB12 hB101 hB280 G0 H_52 r0 r1 r2 n2) (cwV 2 hts (jgV (jWr_82 _ (List.mem_of_getElem? (i := 13) rfl)) (jWr_82 _ (List.mem_of_getElem? (i := 14) rfl)) (jWr_82 _ (List.mem_of_getElem? (i := 15) rfl)) (jWr_2 _ (List.mem_of_getElem? (i := 4) rfl)) (jWr_82 _ (List.mem_of_getElem? (i := 16) rfl))) rfl rfl rfl (by decide +kernel) ⟨by rw [← hR]; exact Nat.le_of_ble_eq_true rfl, by rw [← hR]; exact Nat.le_of_ble_eq_true rfl⟩) ⟨fun a U g mk q => by obtain ⟨q0, q1, q2, qK, q10, q11, q12, q13, q14⟩ := q; exact ⟨q0, q1, q2, jG.calling g mk a qK, q10, q11, q12, q13, q14⟩, hh_52.recv (C := RX5) (T := TX5) (N := 11) hB7 rfl (by decide) hg_r0 hK, fun U hU hW => ⟨rfl, hU, hh_52.2.1, hG.step hW hU hh_52.1, hg_r0, hg_r1, hg_r2, jP.nil, by first | omega | rfl | assumption | decide | exact Or.inl rfl | exact Or.inr rfl | (simp only; omega)⟩⟩ rfl rfl hl.1 rfl (lv_room (Nat.le_of_ble_eq_true rfl)) dX5_nameFault_271 ⟨Nat.zero_le _, Nat.zero_le _⟩) hh_52.1 (fun q _ h => h) (fun q h => h) (fun r_56 u_55 t_55 H_55 locs_55 ht_55 hvm_55 hr_56 hb_55 hz_55 hk_55 hS_55 => ?_)
      rw [ht_55] at hb_55
      obtain ⟨hb_551, hb_552, hb_553, hb_554, hb_555⟩ := hb_55
      have hh_55 : jSt (dC, dI) B base G0 G0 EX5_nameFault s.heap 0 0 [(syntax_6, 12, 5, .int word_14), (syntax_6, 12, 6, .ref told_9), (r0, 7, 1, .ref syntax_6), (r2, 5, 2, .ref hypotheses_3)] [] [(jFs11, jSef dC dI G0)] H_55 locs_55 := ((hh_52.call hb_551 hb_552 hb_553 hb_554 hS_55 rfl (L1 := [(syntax_6, 12, 5, .int word_14), (syntax_6, 12, 6, .ref told_9), (r0, 7, 1, .ref syntax_6), (r2, 5, 2, .ref hypotheses_3)]) [0, 1, 2, 3] rfl rfl (M1 := []) [] rfl rfl (I1 := [(jFs11, jSef dC dI G0)]) [0] rfl rfl).more hb_555)
      clear hh_52 ht_55 hvm_55 hz_55 hk_55 hS_55 hb_551 hb_552 hb_553 hb_554 hb_555
      obtain ⟨hr_56b, hr_56p⟩ := hr_56
      have hr_56' := jb_01 hr_56b
      refine lv_if_eq (tgt := 281) hx hb dX5_nameFault_274 (by decide) (fun c_57 => ?_) (fun c_57 => ?_)
      · skip
        have c_57' : r_56.toInt = 0 := jb_eq (rfl) ((by decide)) c_57
        refine lv_iconst (v := 5) hx hb dX5_nameFault_281 (by decide) ?_
        rw [hQ]
        exact W.iret (v := 5) hx hb hr (fun t ht hW => ⟨⟨5, (), rfl, trivial, ⟨hh_55.rt (M1 := []) [] rfl ht, by rw [ht]; exact hh_55.2.2.2.2.2.2.2.2.sub (L1 := [(jFs11, jSef dC dI G0)]) [0] rfl⟩⟩, by rw [ht]; try exact hh_55.1.1, fun q h9 hq => by rw [ht]; try exact hh_55.1.2.1 q h9 hq⟩) hh_55.1.2.2 dX5_nameFault_282
      · skip
        have c_57' : r_56.toInt ≠ 0 := jb_eq_n (rfl) ((by decide)) c_57
        refine lv_iconst (v := 0) hx hb dX5_nameFault_277 (by decide) ?_
        refine lv_goto (tgt := 282) hx hb dX5_nameFault_278 (by decide) ?_
        rw [hQ]
        exact W.iret (v := 0) hx hb hr (fun t ht hW => ⟨⟨0, (), rfl, trivial, ⟨hh_55.rt (M1 := []) [] rfl ht, by rw [ht]; exact hh_55.2.2.2.2.2.2.2.2.sub (L1 := [(jFs11, jSef dC dI G0)]) [0] rfl⟩⟩, by rw [ht]; try exact hh_55.1.1, fun q h9 hq => by rw [ht]; try exact hh_55.1.2.1 q h9 hq⟩) hh_55.1.2.2 dX5_nameFault_282
    · skip
      have c_54' : r_53.toInt ≠ 0 := jb_eq_n (rfl) ((by decide)) c_54
      refine lv_bipush (v := 6) hx hb dX5_nameFault_265 (by decide) ?_
      rw [hQ]
      exact W.iret (v := 6) hx hb hr (fun t ht hW => ⟨⟨6, (), rfl, trivial, ⟨hh_52.rt (M1 := []) [] rfl ht, by rw [ht]; exact hh_52.2.2.2.2.2.2.2.2.sub (L1 := [(jFs11, jSef dC dI G0)]) [0] rfl⟩⟩, by rw [ht]; try exact hh_52.1.1, fun q h9 hq => by rw [ht]; try exact hh_52.1.2.1 q h9 hq⟩) hh_52.1.2.2 dX5_nameFault_267
set_option maxHeartbeats 4000000 in
set_option maxRecDepth 20000 in
theorem uX5_nameFaultZ (l : Launch) (dC : Nat → ClassId) (dI : Nat → Nat → Nat) (ca : Nat → ClassId) (base : Nat) (B : jF) (hB : jBok B) (hAp : jAp (dC, dI)) (hB5 : ∀ n G a H, B 5 n G a H ↔ jOb (dC, dI) 5 4 (F5 n G) a H) (hB7 : ∀ n G a H, B 7 n G a H ↔ jOb (dC, dI) 7 11 (F7 n G) a H) (hB11 : ∀ n G a H, B 11 n G a H ↔ jOb (dC, dI) 11 9 (F11 n G) a H) (hB12 : ∀ n G a H, B 12 n G a H ↔ jOb (dC, dI) 12 11 (F12b n G) a H) (hB101 : ∀ n G a H, B 101 n G a H ↔ jAr (dC, dI) (ca 1) (fun j z => True) n a H) (hB280 : ∀ n G a H, B 280 n G a H ↔ jAr (dC, dI) (ca 1) (fun j z => -1 ≤ z.toInt) n a H) (hB292 : ∀ n G a H, B 292 n G a H ↔ jAr (dC, dI) (ca 1) (fun j z => 0 ≤ z.toInt ∧ z.toInt ≤ 8191) n a H) (hB313 : ∀ n G a H, B 313 n G a H ↔ jAq (dC, dI) (ca 8) (jQk 280 80) n G a H) (G0 : jT) (H0 : Heap) (r0 : Nat) (r1 : Nat) : Met l yX5_nameFault (jw yX5_nameFault cX5_nameFault 6 (some .int)) ({ frames := 3, cells := 0, slots := 0, locals := 75 }) (va_Pc [.ref r0, .ref r1, .null] (fun U => U.heap = H0 ∧ jX B base G0 [] H0 ∧ jG dC dI ca base U ∧ jK2 dC dI ca U ∧ jK5 dC dI ca U ∧ G0 r0 = some (7, 0) ∧ G0 r1 = some (11, 0) ∧ jP (dC, dI) G0 H0 [] ∧ jIs (dC, dI) G0 H0 [(jFs11, jSef dC dI G0)] ∧ True)) (va_Qi (S := Unit) (fun r u => (True)) (fun u t => (jRt (dC, dI) B base G0 EX5_nameFaultZ H0 [] t.heap) ∧ jIs (dC, dI) G0 t.heap [(jFs11, jSef dC dI G0)]) (jA base)) 0 0 (jA base) := by
  refine Met.ofW (cc := cX5_nameFault) (maxL := 6) (ret := (some .int)) (by decide) rfl ?_
  intro p e s m args below meth c s₁ Bd hml hv
  obtain ⟨rfl, hH0, hX, hG, hK2, hK5, hg_r0, hg_r1, hP0, hI0, hp0⟩ := hv
  have hK := hG.1
  have hx := Bd.exec
  have hb := Bd.bytes
  have hr := Bd.returns
  have hts := atoms_spec (ws := (jw yX5_nameFault cX5_nameFault 6 (some .int))) Bd.pre
  have htw : ∀ w ∈ jWl, w.before _ s = true := fun w h => hts w (List.mem_cons_of_mem _ h)
  have hown : s.vm.findClass RX5 = some m.cls := findClass_of_methodNamed Bd.named
  have hlocks := Bd.notSynchronized
  obtain ⟨Q, hQ⟩ : ∃ Q, Q = MQ below (va_Qi (S := Unit) (fun r u => (True)) (fun u t => (jRt (dC, dI) B base G0 EX5_nameFaultZ H0 [] t.heap) ∧ jIs (dC, dI) G0 t.heap [(jFs11, jSef dC dI G0)]) (jA base)) ([.ref r0, .ref r1, .null] : List Value).toArray s 0 0 (jA base) := ⟨_, rfl⟩
  rw [← hQ]
  have hl := lv_entry ([.ref r0, .ref r1, .null]) (n := 6) (Nat.le_of_ble_eq_true rfl)
  rw [lg_entry_eq]
  generalize (lg_sl ([.ref r0, .ref r1, .null]) ++ List.replicate (6 - (lg_sl ([.ref r0, .ref r1, .null])).length) Slot.unset).toArray = ls at hl ⊢
  have hl : lv_has ls 6 [(0, .ref r0), (1, .ref r1), (2, .null)] := hl
  generalize hR : (headSpec (jw yX5_nameFault cX5_nameFault 6 (some .int)) ({ frames := 3, cells := 0, slots := 0, locals := 75 })).room = R
  subst hH0
  have hh : jSt (dC, dI) B base G0 G0 EX5_nameFaultZ s.heap 0 0 [] [] [(jFs11, jSef dC dI G0)] s.heap [] := jSt.start hX hP0 jMc.nil hI0
  clear hX hP0
  have hk0 : (0 : Int32).toInt = 0 := by decide
  have hk1 : (1 : Int32).toInt = 1 := by decide
  have hk2 : (2 : Int32).toInt = 2 := by decide
  have hk5 : (5 : Int32).toInt = 5 := by decide
  have hk6 : (6 : Int32).toInt = 6 := by decide
  have hly_5_1 := htw (u_lay RX3 TX3 1) (jWc_wsX30 _ (u_in_lay (by decide)))
  have hly_7_1 := htw (u_lay RX5 TX5 1) (jWc_wsX50 _ (u_in_lay (by decide)))
  have hly_12_5 := htw (u_lay RX10 TX10 5) (jWc_wsX100 _ (u_in_lay (by decide)))
  have hly_12_6 := htw (u_lay RX10 TX10 6) (jWc_wsX100 _ (u_in_lay (by decide)))
  have hlk_23 := (htw (.fieldLink RX5 23 "ProofServer$Kernel" "syntax" "LProofServer$Syntax;") (jWr_4 _ (List.mem_of_getElem? (i := 15) rfl)))
  have hlk_93 := (htw (.fieldLink RX5 93 "ProofServer$Syntax" "told" "[I") (jWr_81 _ (List.mem_of_getElem? (i := 8) rfl)))
  have hlk_74 := (htw (.fieldLink RX5 74 "ProofServer$Syntax" "word" "I") (jWr_78 _ (List.mem_of_getElem? (i := 19) rfl)))
  have hlk_164 := (htw (.fieldLink RX5 164 "ProofServer$Goal" "names" "[I") (jWr_81 _ (List.mem_of_getElem? (i := 16) rfl)))
  refine lv_aload_n hx hb dX5_nameFault_0 rfl (lv_at hl 0 rfl) ?_
  obtain ⟨v_1, hv_1, hh_2⟩ := hh.pin (C := RX5) (T := TX5) (N := 11) hB7 rfl (by decide) hg_r0 (i := 1) (by decide) rfl
  clear hh
  obtain ⟨syntax_3, rfl, hg_syntax_3⟩ := hv_1
  refine j7_read hx hb hown hK (C := RX5) (T := TX5) (N := 11) rfl hly_7_1 hlk_23 (hh_2.at 0 rfl) dX5_nameFault_1 ?_
  obtain ⟨v_4, hv_4, hh_5⟩ := hh_2.pin (C := RX10) (T := TX10) (N := 11) hB12 rfl (by decide) hg_syntax_3 (i := 6) (by decide) rfl
  clear hh_2
  obtain ⟨told_6, rfl, hg_told_6⟩ := hv_4
  refine j7_read hx hb hown hK (C := RX10) (T := TX10) (N := 11) rfl hly_12_6 hlk_93 (hh_5.at 0 rfl) dX5_nameFault_4 ?_
  refine lv_iconst (v := 0) hx hb dX5_nameFault_7 (by decide) ?_
  refine j7_iald hx hb hK hh_5 hB292 1 rfl (by decide) hg_told_6 (x := 0) ((by decide)) (by omega) dX5_nameFault_8 (fun z_7 (hz_7 : 0 ≤ z_7.toInt ∧ z_7.toInt ≤ 8191) => ?_)
  refine lv_istore_n (lv' := [(3, .int z_7), (0, .ref r0), (1, .ref r1), (2, .null)]) hx hb dX5_nameFault_9 rfl hl (by decide) rfl (fun ls hl => ?_)
  refine lv_aload_n hx hb dX5_nameFault_10 rfl (lv_at hl 1 rfl) ?_
  refine j7_read hx hb hown hK (C := RX5) (T := TX5) (N := 11) rfl hly_7_1 hlk_23 (hh_5.at 1 rfl) dX5_nameFault_11 ?_
  refine j7_read hx hb hown hK (C := RX10) (T := TX10) (N := 11) rfl hly_12_6 hlk_93 (hh_5.at 0 rfl) dX5_nameFault_14 ?_
  refine lv_iconst (v := 1) hx hb dX5_nameFault_17 (by decide) ?_
  refine j7_iald hx hb hK hh_5 hB292 1 rfl (by decide) hg_told_6 (x := 1) ((by decide)) (by omega) dX5_nameFault_18 (fun z_8 (hz_8 : 0 ≤ z_8.toInt ∧ z_8.toInt ≤ 8191) => ?_)
  refine lv_istore (lv' := [(4, .int z_8), (3, .int z_7), (0, .ref r0), (1, .ref r1), (2, .null)]) hx hb dX5_nameFault_19 hl (by decide) rfl (fun ls hl => ?_)
  refine lv_aload_n hx hb dX5_nameFault_21 rfl (lv_at hl 2 rfl) ?_
  refine j7_read hx hb hown hK (C := RX5) (T := TX5) (N := 11) rfl hly_7_1 hlk_23 (hh_5.at 1 rfl) dX5_nameFault_22 ?_
  obtain ⟨v_9, hv_9, hh_10⟩ := hh_5.pin (C := RX10) (T := TX10) (N := 11) hB12 rfl (by decide) hg_syntax_3 (i := 5) (by decide) rfl
  clear hh_5
  obtain ⟨word_11, rfl⟩ := hv_9
  refine j7_read hx hb hown hK (C := RX10) (T := TX10) (N := 11) rfl hly_12_5 hlk_74 (hh_10.at 0 rfl) dX5_nameFault_25 ?_
  have C112 : ∀ (H_13 : Heap) (locs_13 : List Loc), jSt (dC, dI) B base G0 G0 EX5_nameFaultZ s.heap 0 0 [(syntax_3, 12, 5, .int word_11), (syntax_3, 12, 6, .ref told_6), (r0, 7, 1, .ref syntax_3)] [] [(jFs11, jSef dC dI G0)] H_13 locs_13 → (10 ≤ word_11.toInt ∧ word_11.toInt ≤ 20) → ∀ ls : Array Slot, lv_has ls 6 [(0, .ref r0), (1, .ref r1), (2, .null), (3, .int z_7), (4, .int z_8)] → W p l e R s m ([.ref r0, .ref r1, .null] : List Value).toArray below meth c H_13 locs_13 0 0 Q (F0 m 112 ls []) := by
    intro  H_13 locs_13 hh_13  hi_13 ls hl
    obtain ⟨hi_13_0, hi_13_1⟩ := hi_13
    refine lv_aload_n hx hb dX5_nameFault_112 rfl (lv_at hl 1 rfl) ?_
    refine j7_nld_n hx hb dX5_nameFault_113 rfl (lv_at hl 2 rfl) ?_
    refine lv_iload_n hx hb dX5_nameFault_114 rfl (lv_at hl 3 rfl) ?_
    refine j_callx (A0 := jA base) (H0 := s.heap) (va_runS (As := [.ref r1, .null, .int z_7]) (rest := []) ⟨hx, hb, hml, hown, hts⟩ (uX5_namedZ l dC dI ca base B hB hAp hB5 hB11 hB101 hB280 hB313 G0 H_13 r1 z_7) (va_cwS 3 hts (jgS (jWr_84 _ (List.mem_of_getElem? (i := 7) rfl)) (jWr_84 _ (List.mem_of_getElem? (i := 8) rfl)) (jWr_2 _ (List.mem_of_getElem? (i := 4) rfl)) (jWr_84 _ (List.mem_of_getElem? (i := 9) rfl))) rfl rfl rfl (by decide +kernel) ⟨by rw [← hR]; exact Nat.le_of_ble_eq_true rfl, by rw [← hR]; exact Nat.le_of_ble_eq_true rfl⟩) ⟨fun a U g mk q => by obtain ⟨q0, q1, q2, qK, q10, q11, q12, q13, q14⟩ := q; exact ⟨q0, q1, q2, jG.calling g mk a qK, (jK5.moved (Vm.Alike.refl U.vm) q10), q11, q12, q13, q14⟩, fun U hU hW => ⟨rfl, hU, hh_13.2.1, hG.step hW hU hh_13.1, jK5.moved hW.alike hK5, hg_r1, jP.nil, (hh_13.2.2.2.2.2.2.2.2.sub (L1 := [(jFs11, jSef dC dI G0)]) [0] rfl), trivial⟩⟩ rfl rfl hl.1 rfl (lv_room (Nat.le_of_ble_eq_true rfl)) dX5_nameFault_115 ⟨Nat.zero_le _, Nat.zero_le _⟩) hh_13.1 (fun q _ h => h) (fun q h => h) (fun r_15 u_14 t_14 H_14 locs_14 ht_14 hvm_14 hr_15 hb_14 hz_14 hk_14 hS_14 => ?_)
    rw [ht_14] at hb_14
    obtain ⟨hb_14, hbE_14⟩ := hb_14
    obtain ⟨hb_141, hb_142, hb_143, hb_144, hb_145⟩ := hb_14
    have hh_14 : jSt (dC, dI) B base G0 G0 EX5_nameFaultZ s.heap 0 0 [(syntax_3, 12, 5, .int word_11), (syntax_3, 12, 6, .ref told_6), (r0, 7, 1, .ref syntax_3)] [] [(jFs11, jSef dC dI G0)] H_14 locs_14 := (((hh_13.call hb_141 hb_142 hb_143 hb_144 hS_14 rfl (L1 := [(syntax_3, 12, 5, .int word_11), (syntax_3, 12, 6, .ref told_6), (r0, 7, 1, .ref syntax_3)]) [0, 1, 2] rfl rfl (M1 := []) [] rfl rfl (I1 := []) [] rfl rfl).more hb_145)).addIs hbE_14
    clear hh_13 ht_14 hvm_14 hz_14 hk_14 hS_14 hb_141 hb_142 hb_143 hb_144 hb_145
    clear  hbE_14
    rcases hr_15 with rfl | ⟨ret_16, nret_16, rfl, hg_ret_16, hn_ret_16⟩
    · skip
      refine lv_ifnonnullN hx hb dX5_nameFault_118 ?_
      refine lv_iconst (v := 5) hx hb dX5_nameFault_121 (by decide) ?_
      refine lv_goto (tgt := 126) hx hb dX5_nameFault_122 (by decide) ?_
      rw [hQ]
      exact W.iret (v := 5) hx hb hr (fun t ht hW => ⟨⟨5, (), rfl, trivial, ⟨hh_14.rt (M1 := []) [] rfl ht, by rw [ht]; exact hh_14.2.2.2.2.2.2.2.2.sub (L1 := [(jFs11, jSef dC dI G0)]) [0] rfl⟩⟩, by rw [ht]; try exact hh_14.1.1, fun q h9 hq => by rw [ht]; try exact hh_14.1.2.1 q h9 hq⟩) hh_14.1.2.2 dX5_nameFault_126
    · skip
      refine lv_ifnonnull (tgt := 125) hx hb dX5_nameFault_118 (by decide) ?_
      refine lv_iconst (v := 0) hx hb dX5_nameFault_125 (by decide) ?_
      rw [hQ]
      exact W.iret (v := 0) hx hb hr (fun t ht hW => ⟨⟨0, (), rfl, trivial, ⟨hh_14.rt (M1 := []) [] rfl ht, by rw [ht]; exact hh_14.2.2.2.2.2.2.2.2.sub (L1 := [(jFs11, jSef dC dI G0)]) [0] rfl⟩⟩, by rw [ht]; try exact hh_14.1.1, fun q h9 hq => by rw [ht]; try exact hh_14.1.2.1 q h9 hq⟩) hh_14.1.2.2 dX5_nameFault_126
  rcases (by omega : (word_11.toInt < 9 ∨ 21 < word_11.toInt) ∨ word_11.toInt = 9 ∨ word_11.toInt = 10 ∨ word_11.toInt = 11 ∨ word_11.toInt = 12 ∨ word_11.toInt = 13 ∨ word_11.toInt = 14 ∨ word_11.toInt = 15 ∨ word_11.toInt = 16 ∨ word_11.toInt = 17 ∨ word_11.toInt = 18 ∨ word_11.toInt = 19 ∨ word_11.toInt = 20 ∨ word_11.toInt = 21) with c_12 | c_12 | c_12 | c_12 | c_12 | c_12 | c_12 | c_12 | c_12 | c_12 | c_12 | c_12 | c_12 | c_12
  · refine lv_tableOut (tgt := 283) hx hb dX5_nameFault_28 c_12 (by decide) ?_
    refine lv_iconst (v := 0) hx hb dX5_nameFault_283 (by decide) ?_
    rw [hQ]
    exact W.iret (v := 0) hx hb hr (fun t ht hW => ⟨⟨0, (), rfl, trivial, ⟨hh_10.rt (M1 := []) [] rfl ht, by rw [ht]; exact hh_10.2.2.2.2.2.2.2.2.sub (L1 := [(jFs11, jSef dC dI G0)]) [0] rfl⟩⟩, by rw [ht]; try exact hh_10.1.1, fun q h9 hq => by rw [ht]; try exact hh_10.1.2.1 q h9 hq⟩) hh_10.1.2.2 dX5_nameFault_284
  · refine lv_tableIn (off := 68) (tgt := 96) hx hb dX5_nameFault_28 (by omega) (by omega) (by rw [c_12]; rfl) (by decide) ?_
    refine lv_aload_n hx hb dX5_nameFault_96 rfl (lv_at hl 3 rfl) ?_
    refine j7_nld_n hx hb dX5_nameFault_97 rfl (lv_at hl 4 rfl) ?_
    refine lv_iload_n hx hb dX5_nameFault_98 rfl (lv_at hl 1 rfl) ?_
    refine va_calli (A0 := jA base) (H0 := s.heap) (va_runS (As := [.ref r1, .null, .int z_7]) (rest := []) ⟨hx, hb, hml, hown, hts⟩ (uX5_isTakenZ l dC dI ca base B hB hAp hB5 hB11 hB101 G0 s.heap r1 z_7) (va_cwS 3 hts (jgS (jWr_81 _ (List.mem_of_getElem? (i := 11) rfl)) (jWr_81 _ (List.mem_of_getElem? (i := 12) rfl)) (jWr_2 _ (List.mem_of_getElem? (i := 4) rfl)) (jWr_81 _ (List.mem_of_getElem? (i := 13) rfl))) rfl rfl rfl (by decide +kernel) ⟨by rw [← hR]; exact Nat.le_of_ble_eq_true rfl, by rw [← hR]; exact Nat.le_of_ble_eq_true rfl⟩) ⟨fun a U g mk q => by obtain ⟨q0, q1, q2, qK, q10, q11, q12⟩ := q; exact ⟨q0, q1, q2, jG.calling g mk a qK, q10, q11, q12⟩, fun U hU hW => ⟨rfl, hU, hh_10.2.1, hG.step hW hU hh_10.1, hg_r1, jP.nil, trivial⟩⟩ rfl rfl hl.1 rfl (lv_room (Nat.le_of_ble_eq_true rfl)) dX5_nameFault_99 ⟨Nat.zero_le _, Nat.zero_le _⟩) hh_10.1 (fun q _ h => h) (fun q h => h) (fun r_18 u_17 t_17 H_17 locs_17 ht_17 hvm_17 hr_18 hb_17 hz_17 hk_17 hS_17 => ?_)
    rw [ht_17] at hb_17
    obtain ⟨hb_171, hb_172, hb_173, hb_174, hb_175⟩ := hb_17
    have hh_17 : jSt (dC, dI) B base G0 G0 EX5_nameFaultZ s.heap 0 0 [(syntax_3, 12, 5, .int word_11), (syntax_3, 12, 6, .ref told_6), (r0, 7, 1, .ref syntax_3)] [] [(jFs11, jSef dC dI G0)] H_17 locs_17 := ((hh_10.call hb_171 hb_172 hb_173 hb_174 hS_17 rfl (L1 := [(syntax_3, 12, 5, .int word_11), (syntax_3, 12, 6, .ref told_6), (r0, 7, 1, .ref syntax_3)]) [0, 1, 2] rfl rfl (M1 := []) [] rfl rfl (I1 := [(jFs11, jSef dC dI G0)]) [0] rfl rfl).more hb_175)
    clear hh_10 ht_17 hvm_17 hz_17 hk_17 hS_17 hb_171 hb_172 hb_173 hb_174 hb_175
    obtain ⟨hr_18b, hr_18p⟩ := hr_18
    have hr_18' := jb_01 hr_18b
    refine lv_if_eq (tgt := 110) hx hb dX5_nameFault_102 (by decide) (fun c_19 => ?_) (fun c_19 => ?_)
    · skip
      have c_19' : r_18.toInt = 0 := jb_eq (rfl) ((by decide)) c_19
      refine lv_iconst (v := 0) hx hb dX5_nameFault_110 (by decide) ?_
      rw [hQ]
      exact W.iret (v := 0) hx hb hr (fun t ht hW => ⟨⟨0, (), rfl, trivial, ⟨hh_17.rt (M1 := []) [] rfl ht, by rw [ht]; exact hh_17.2.2.2.2.2.2.2.2.sub (L1 := [(jFs11, jSef dC dI G0)]) [0] rfl⟩⟩, by rw [ht]; try exact hh_17.1.1, fun q h9 hq => by rw [ht]; try exact hh_17.1.2.1 q h9 hq⟩) hh_17.1.2.2 dX5_nameFault_111
    · skip
      have c_19' : r_18.toInt ≠ 0 := jb_eq_n (rfl) ((by decide)) c_19
      refine lv_bipush (v := 6) hx hb dX5_nameFault_105 (by decide) ?_
      refine lv_goto (tgt := 111) hx hb dX5_nameFault_107 (by decide) ?_
      rw [hQ]
      exact W.iret (v := 6) hx hb hr (fun t ht hW => ⟨⟨6, (), rfl, trivial, ⟨hh_17.rt (M1 := []) [] rfl ht, by rw [ht]; exact hh_17.2.2.2.2.2.2.2.2.sub (L1 := [(jFs11, jSef dC dI G0)]) [0] rfl⟩⟩, by rw [ht]; try exact hh_17.1.1, fun q h9 hq => by rw [ht]; try exact hh_17.1.2.1 q h9 hq⟩) hh_17.1.2.2 dX5_nameFault_111
  · refine lv_tableIn (off := 84) (tgt := 112) hx hb dX5_nameFault_28 (by omega) (by omega) (by rw [c_12]; rfl) (by decide) ?_
    exact C112  _ _ hh_10 (by first | omega | (refine ⟨?_, ?_⟩ <;> (first | omega | rfl | assumption | decide | exact Or.inl rfl | exact Or.inr rfl | (simp only; omega)))) _ (lv_sub hl [2, 3, 4, 1, 0] rfl)
  · refine lv_tableIn (off := 84) (tgt := 112) hx hb dX5_nameFault_28 (by omega) (by omega) (by rw [c_12]; rfl) (by decide) ?_
    exact C112  _ _ hh_10 (by first | omega | (refine ⟨?_, ?_⟩ <;> (first | omega | rfl | assumption | decide | exact Or.inl rfl | exact Or.inr rfl | (simp only; omega)))) _ (lv_sub hl [2, 3, 4, 1, 0] rfl)
  · refine lv_tableIn (off := 255) (tgt := 283) hx hb dX5_nameFault_28 (by omega) (by omega) (by rw [c_12]; rfl) (by decide) ?_
    refine lv_iconst (v := 0) hx hb dX5_nameFault_283 (by decide) ?_
    rw [hQ]
    exact W.iret (v := 0) hx hb hr (fun t ht hW => ⟨⟨0, (), rfl, trivial, ⟨hh_10.rt (M1 := []) [] rfl ht, by rw [ht]; exact hh_10.2.2.2.2.2.2.2.2.sub (L1 := [(jFs11, jSef dC dI G0)]) [0] rfl⟩⟩, by rw [ht]; try exact hh_10.1.1, fun q h9 hq => by rw [ht]; try exact hh_10.1.2.1 q h9 hq⟩) hh_10.1.2.2 dX5_nameFault_284
  · refine lv_tableIn (off := 255) (tgt := 283) hx hb dX5_nameFault_28 (by omega) (by omega) (by rw [c_12]; rfl) (by decide) ?_
    refine lv_iconst (v := 0) hx hb dX5_nameFault_283 (by decide) ?_
    rw [hQ]
    exact W.iret (v := 0) hx hb hr (fun t ht hW => ⟨⟨0, (), rfl, trivial, ⟨hh_10.rt (M1 := []) [] rfl ht, by rw [ht]; exact hh_10.2.2.2.2.2.2.2.2.sub (L1 := [(jFs11, jSef dC dI G0)]) [0] rfl⟩⟩, by rw [ht]; try exact hh_10.1.1, fun q h9 hq => by rw [ht]; try exact hh_10.1.2.1 q h9 hq⟩) hh_10.1.2.2 dX5_nameFault_284
  · refine lv_tableIn (off := 255) (tgt := 283) hx hb dX5_nameFault_28 (by omega) (by omega) (by rw [c_12]; rfl) (by decide) ?_
    refine lv_iconst (v := 0) hx hb dX5_nameFault_283 (by decide) ?_
    rw [hQ]
    exact W.iret (v := 0) hx hb hr (fun t ht hW => ⟨⟨0, (), rfl, trivial, ⟨hh_10.rt (M1 := []) [] rfl ht, by rw [ht]; exact hh_10.2.2.2.2.2.2.2.2.sub (L1 := [(jFs11, jSef dC dI G0)]) [0] rfl⟩⟩, by rw [ht]; try exact hh_10.1.1, fun q h9 hq => by rw [ht]; try exact hh_10.1.2.1 q h9 hq⟩) hh_10.1.2.2 dX5_nameFault_284
  · refine lv_tableIn (off := 99) (tgt := 127) hx hb dX5_nameFault_28 (by omega) (by omega) (by rw [c_12]; rfl) (by decide) ?_
    refine j7_nld_n hx hb dX5_nameFault_127 rfl (lv_at hl 4 rfl) ?_
    refine lv_ifnullN (tgt := 142) hx hb dX5_nameFault_128 (by decide) ?_
    refine lv_iconst (v := 5) hx hb dX5_nameFault_142 (by decide) ?_
    rw [hQ]
    exact W.iret (v := 5) hx hb hr (fun t ht hW => ⟨⟨5, (), rfl, trivial, ⟨hh_10.rt (M1 := []) [] rfl ht, by rw [ht]; exact hh_10.2.2.2.2.2.2.2.2.sub (L1 := [(jFs11, jSef dC dI G0)]) [0] rfl⟩⟩, by rw [ht]; try exact hh_10.1.1, fun q h9 hq => by rw [ht]; try exact hh_10.1.2.1 q h9 hq⟩) hh_10.1.2.2 dX5_nameFault_143
  · refine lv_tableIn (off := 84) (tgt := 112) hx hb dX5_nameFault_28 (by omega) (by omega) (by rw [c_12]; rfl) (by decide) ?_
    exact C112  _ _ hh_10 (by first | omega | (refine ⟨?_, ?_⟩ <;> (first | omega | rfl | assumption | decide | exact Or.inl rfl | exact Or.inr rfl | (simp only; omega)))) _ (lv_sub hl [2, 3, 4, 1, 0] rfl)
  · refine lv_tableIn (off := 176) (tgt := 204) hx hb dX5_nameFault_28 (by omega) (by omega) (by rw [c_12]; rfl) (by decide) ?_
    refine lv_aload_n hx hb dX5_nameFault_204 rfl (lv_at hl 2 rfl) ?_
    refine lv_aload_n hx hb dX5_nameFault_205 rfl (lv_at hl 3 rfl) ?_
    refine j7_nld_n hx hb dX5_nameFault_206 rfl (lv_at hl 4 rfl) ?_
    refine va_calli (A0 := jA base) (H0 := s.heap) (va_runV (As := [.ref r1, .null]) (rest := []) ⟨hx, hb, hml, hown, hts⟩ (uX5_isResolvedZ l dC dI ca base B hB hAp hB5 hB7 hB11 hB12 hB101 hB280 G0 s.heap r0 r1) (cwV 2 hts (jgV (jWr_82 _ (List.mem_of_getElem? (i := 13) rfl)) (jWr_82 _ (List.mem_of_getElem? (i := 14) rfl)) (jWr_82 _ (List.mem_of_getElem? (i := 15) rfl)) (jWr_2 _ (List.mem_of_getElem? (i := 4) rfl)) (jWr_82 _ (List.mem_of_getElem? (i := 16) rfl))) rfl rfl rfl (by decide +kernel) ⟨by rw [← hR]; exact Nat.le_of_ble_eq_true rfl, by rw [← hR]; exact Nat.le_of_ble_eq_true rfl⟩) ⟨fun a U g mk q => by obtain ⟨q0, q1, q2, qK, q10, q11, q12, q13⟩ := q; exact ⟨q0, q1, q2, jG.calling g mk a qK, q10, q11, q12, q13⟩, hh_10.recv (C := RX5) (T := TX5) (N := 11) hB7 rfl (by decide) hg_r0 hK, fun U hU hW => ⟨rfl, hU, hh_10.2.1, hG.step hW hU hh_10.1, hg_r0, hg_r1, jP.nil, trivial⟩⟩ rfl rfl hl.1 rfl (lv_room (Nat.le_of_ble_eq_true rfl)) dX5_nameFault_207 ⟨Nat.zero_le _, Nat.zero_le _⟩) hh_10.1 (fun q _ h => h) (fun q h => h) (fun r_21 u_20 t_20 H_20 locs_20 ht_20 hvm_20 hr_21 hb_20 hz_20 hk_20 hS_20 => ?_)
    rw [ht_20] at hb_20
    obtain ⟨hb_201, hb_202, hb_203, hb_204, hb_205⟩ := hb_20
    have hh_20 : jSt (dC, dI) B base G0 G0 EX5_nameFaultZ s.heap 0 0 [(syntax_3, 12, 5, .int word_11), (syntax_3, 12, 6, .ref told_6), (r0, 7, 1, .ref syntax_3)] [] [(jFs11, jSef dC dI G0)] H_20 locs_20 := ((hh_10.call hb_201 hb_202 hb_203 hb_204 hS_20 rfl (L1 := [(syntax_3, 12, 5, .int word_11), (syntax_3, 12, 6, .ref told_6), (r0, 7, 1, .ref syntax_3)]) [0, 1, 2] rfl rfl (M1 := []) [] rfl rfl (I1 := [(jFs11, jSef dC dI G0)]) [0] rfl rfl).more hb_205)
    clear hh_10 ht_20 hvm_20 hz_20 hk_20 hS_20 hb_201 hb_202 hb_203 hb_204 hb_205
    obtain ⟨hr_21b, hr_21p⟩ := hr_21
    have hr_21' := jb_01 hr_21b
    refine lv_if_eq (tgt := 217) hx hb dX5_nameFault_210 (by decide) (fun c_22 => ?_) (fun c_22 => ?_)
    · skip
      have c_22' : r_21.toInt = 0 := jb_eq (rfl) ((by decide)) c_22
      refine lv_iconst (v := 5) hx hb dX5_nameFault_217 (by decide) ?_
      rw [hQ]
      exact W.iret (v := 5) hx hb hr (fun t ht hW => ⟨⟨5, (), rfl, trivial, ⟨hh_20.rt (M1 := []) [] rfl ht, by rw [ht]; exact hh_20.2.2.2.2.2.2.2.2.sub (L1 := [(jFs11, jSef dC dI G0)]) [0] rfl⟩⟩, by rw [ht]; try exact hh_20.1.1, fun q h9 hq => by rw [ht]; try exact hh_20.1.2.1 q h9 hq⟩) hh_20.1.2.2 dX5_nameFault_218
    · skip
      have c_22' : r_21.toInt ≠ 0 := jb_eq_n (rfl) ((by decide)) c_22
      refine lv_iconst (v := 0) hx hb dX5_nameFault_213 (by decide) ?_
      refine lv_goto (tgt := 218) hx hb dX5_nameFault_214 (by decide) ?_
      rw [hQ]
      exact W.iret (v := 0) hx hb hr (fun t ht hW => ⟨⟨0, (), rfl, trivial, ⟨hh_20.rt (M1 := []) [] rfl ht, by rw [ht]; exact hh_20.2.2.2.2.2.2.2.2.sub (L1 := [(jFs11, jSef dC dI G0)]) [0] rfl⟩⟩, by rw [ht]; try exact hh_20.1.1, fun q h9 hq => by rw [ht]; try exact hh_20.1.2.1 q h9 hq⟩) hh_20.1.2.2 dX5_nameFault_218
  · refine lv_tableIn (off := 191) (tgt := 219) hx hb dX5_nameFault_28 (by omega) (by omega) (by rw [c_12]; rfl) (by decide) ?_
    refine lv_aload_n hx hb dX5_nameFault_219 rfl (lv_at hl 3 rfl) ?_
    refine j7_nld_n hx hb dX5_nameFault_220 rfl (lv_at hl 4 rfl) ?_
    refine lv_iload_n hx hb dX5_nameFault_221 rfl (lv_at hl 1 rfl) ?_
    refine j_callx (A0 := jA base) (H0 := s.heap) (va_runS (As := [.ref r1, .null, .int z_7]) (rest := []) ⟨hx, hb, hml, hown, hts⟩ (uX5_namedZ l dC dI ca base B hB hAp hB5 hB11 hB101 hB280 hB313 G0 s.heap r1 z_7) (va_cwS 3 hts (jgS (jWr_84 _ (List.mem_of_getElem? (i := 7) rfl)) (jWr_84 _ (List.mem_of_getElem? (i := 8) rfl)) (jWr_2 _ (List.mem_of_getElem? (i := 4) rfl)) (jWr_84 _ (List.mem_of_getElem? (i := 9) rfl))) rfl rfl rfl (by decide +kernel) ⟨by rw [← hR]; exact Nat.le_of_ble_eq_true rfl, by rw [← hR]; exact Nat.le_of_ble_eq_true rfl⟩) ⟨fun a U g mk q => by obtain ⟨q0, q1, q2, qK, q10, q11, q12, q13, q14⟩ := q; exact ⟨q0, q1, q2, jG.calling g mk a qK, (jK5.moved (Vm.Alike.refl U.vm) q10), q11, q12, q13, q14⟩, fun U hU hW => ⟨rfl, hU, hh_10.2.1, hG.step hW hU hh_10.1, jK5.moved hW.alike hK5, hg_r1, jP.nil, (hh_10.2.2.2.2.2.2.2.2.sub (L1 := [(jFs11, jSef dC dI G0)]) [0] rfl), trivial⟩⟩ rfl rfl hl.1 rfl (lv_room (Nat.le_of_ble_eq_true rfl)) dX5_nameFault_222 ⟨Nat.zero_le _, Nat.zero_le _⟩) hh_10.1 (fun q _ h => h) (fun q h => h) (fun r_24 u_23 t_23 H_23 locs_23 ht_23 hvm_23 hr_24 hb_23 hz_23 hk_23 hS_23 => ?_)
    rw [ht_23] at hb_23
    obtain ⟨hb_23, hbE_23⟩ := hb_23
    obtain ⟨hb_231, hb_232, hb_233, hb_234, hb_235⟩ := hb_23
    have hh_23 : jSt (dC, dI) B base G0 G0 EX5_nameFaultZ s.heap 0 0 [(syntax_3, 12, 5, .int word_11), (syntax_3, 12, 6, .ref told_6), (r0, 7, 1, .ref syntax_3)] [] [(jFs11, jSef dC dI G0)] H_23 locs_23 := (((hh_10.call hb_231 hb_232 hb_233 hb_234 hS_23 rfl (L1 := [(syntax_3, 12, 5, .int word_11), (syntax_3, 12, 6, .ref told_6), (r0, 7, 1, .ref syntax_3)]) [0, 1, 2] rfl rfl (M1 := []) [] rfl rfl (I1 := []) [] rfl rfl).more hb_235)).addIs hbE_23
    clear hh_10 ht_23 hvm_23 hz_23 hk_23 hS_23 hb_231 hb_232 hb_233 hb_234 hb_235
    clear  hbE_23
    rcases hr_24 with rfl | ⟨ret_25, nret_25, rfl, hg_ret_25, hn_ret_25⟩
    · skip
      refine lv_ifnullN (tgt := 237) hx hb dX5_nameFault_225 (by decide) ?_
      refine lv_iconst (v := 5) hx hb dX5_nameFault_237 (by decide) ?_
      rw [hQ]
      exact W.iret (v := 5) hx hb hr (fun t ht hW => ⟨⟨5, (), rfl, trivial, ⟨hh_23.rt (M1 := []) [] rfl ht, by rw [ht]; exact hh_23.2.2.2.2.2.2.2.2.sub (L1 := [(jFs11, jSef dC dI G0)]) [0] rfl⟩⟩, by rw [ht]; try exact hh_23.1.1, fun q h9 hq => by rw [ht]; try exact hh_23.1.2.1 q h9 hq⟩) hh_23.1.2.2 dX5_nameFault_238
    · skip
      refine lv_ifnull hx hb dX5_nameFault_225 ?_
      refine lv_aload_n hx hb dX5_nameFault_228 rfl (lv_at hl 2 rfl) ?_
      refine lv_aload_n hx hb dX5_nameFault_229 rfl (lv_at hl 3 rfl) ?_
      refine j7_nld_n hx hb dX5_nameFault_230 rfl (lv_at hl 4 rfl) ?_
      refine va_calli (A0 := jA base) (H0 := s.heap) (va_runV (As := [.ref r1, .null]) (rest := []) ⟨hx, hb, hml, hown, hts⟩ (uX5_isResolvedZ l dC dI ca base B hB hAp hB5 hB7 hB11 hB12 hB101 hB280 G0 H_23 r0 r1) (cwV 2 hts (jgV (jWr_82 _ (List.mem_of_getElem? (i := 13) rfl)) (jWr_82 _ (List.mem_of_getElem? (i := 14) rfl)) (jWr_82 _ (List.mem_of_getElem? (i := 15) rfl)) (jWr_2 _ (List.mem_of_getElem? (i := 4) rfl)) (jWr_82 _ (List.mem_of_getElem? (i := 16) rfl))) rfl rfl rfl (by decide +kernel) ⟨by rw [← hR]; exact Nat.le_of_ble_eq_true rfl, by rw [← hR]; exact Nat.le_of_ble_eq_true rfl⟩) ⟨fun a U g mk q => by obtain ⟨q0, q1, q2, qK, q10, q11, q12, q13⟩ := q; exact ⟨q0, q1, q2, jG.calling g mk a qK, q10, q11, q12, q13⟩, hh_23.recv (C := RX5) (T := TX5) (N := 11) hB7 rfl (by decide) hg_r0 hK, fun U hU hW => ⟨rfl, hU, hh_23.2.1, hG.step hW hU hh_23.1, hg_r0, hg_r1, jP.nil, trivial⟩⟩ rfl rfl hl.1 rfl (lv_room (Nat.le_of_ble_eq_true rfl)) dX5_nameFault_231 ⟨Nat.zero_le _, Nat.zero_le _⟩) hh_23.1 (fun q _ h => h) (fun q h => h) (fun r_27 u_26 t_26 H_26 locs_26 ht_26 hvm_26 hr_27 hb_26 hz_26 hk_26 hS_26 => ?_)
      rw [ht_26] at hb_26
      obtain ⟨hb_261, hb_262, hb_263, hb_264, hb_265⟩ := hb_26
      have hh_26 : jSt (dC, dI) B base G0 G0 EX5_nameFaultZ s.heap 0 0 [(syntax_3, 12, 5, .int word_11), (syntax_3, 12, 6, .ref told_6), (r0, 7, 1, .ref syntax_3)] [] [(jFs11, jSef dC dI G0)] H_26 locs_26 := ((hh_23.call hb_261 hb_262 hb_263 hb_264 hS_26 rfl (L1 := [(syntax_3, 12, 5, .int word_11), (syntax_3, 12, 6, .ref told_6), (r0, 7, 1, .ref syntax_3)]) [0, 1, 2] rfl rfl (M1 := []) [] rfl rfl (I1 := [(jFs11, jSef dC dI G0)]) [0] rfl rfl).more hb_265)
      clear hh_23 ht_26 hvm_26 hz_26 hk_26 hS_26 hb_261 hb_262 hb_263 hb_264 hb_265
      obtain ⟨hr_27b, hr_27p⟩ := hr_27
      have hr_27' := jb_01 hr_27b
      refine lv_if_ne (tgt := 239) hx hb dX5_nameFault_234 (by decide) (fun c_28 => ?_) (fun c_28 => ?_)
      · skip
        have c_28' : r_27.toInt ≠ 0 := jb_ne (rfl) ((by decide)) c_28
        refine lv_aload_n hx hb dX5_nameFault_239 rfl (lv_at hl 3 rfl) ?_
        refine j7_nld_n hx hb dX5_nameFault_240 rfl (lv_at hl 4 rfl) ?_
        refine lv_iload hx hb dX5_nameFault_241 (lv_at hl 0 rfl) ?_
        refine va_calli (A0 := jA base) (H0 := s.heap) (va_runS (As := [.ref r1, .null, .int z_8]) (rest := []) ⟨hx, hb, hml, hown, hts⟩ (uX5_isTakenZ l dC dI ca base B hB hAp hB5 hB11 hB101 G0 H_26 r1 z_8) (va_cwS 3 hts (jgS (jWr_81 _ (List.mem_of_getElem? (i := 11) rfl)) (jWr_81 _ (List.mem_of_getElem? (i := 12) rfl)) (jWr_2 _ (List.mem_of_getElem? (i := 4) rfl)) (jWr_81 _ (List.mem_of_getElem? (i := 13) rfl))) rfl rfl rfl (by decide +kernel) ⟨by rw [← hR]; exact Nat.le_of_ble_eq_true rfl, by rw [← hR]; exact Nat.le_of_ble_eq_true rfl⟩) ⟨fun a U g mk q => by obtain ⟨q0, q1, q2, qK, q10, q11, q12⟩ := q; exact ⟨q0, q1, q2, jG.calling g mk a qK, q10, q11, q12⟩, fun U hU hW => ⟨rfl, hU, hh_26.2.1, hG.step hW hU hh_26.1, hg_r1, jP.nil, trivial⟩⟩ rfl rfl hl.1 rfl (lv_room (Nat.le_of_ble_eq_true rfl)) dX5_nameFault_243 ⟨Nat.zero_le _, Nat.zero_le _⟩) hh_26.1 (fun q _ h => h) (fun q h => h) (fun r_30 u_29 t_29 H_29 locs_29 ht_29 hvm_29 hr_30 hb_29 hz_29 hk_29 hS_29 => ?_)
        rw [ht_29] at hb_29
        obtain ⟨hb_291, hb_292, hb_293, hb_294, hb_295⟩ := hb_29
        have hh_29 : jSt (dC, dI) B base G0 G0 EX5_nameFaultZ s.heap 0 0 [(syntax_3, 12, 5, .int word_11), (syntax_3, 12, 6, .ref told_6), (r0, 7, 1, .ref syntax_3)] [] [(jFs11, jSef dC dI G0)] H_29 locs_29 := ((hh_26.call hb_291 hb_292 hb_293 hb_294 hS_29 rfl (L1 := [(syntax_3, 12, 5, .int word_11), (syntax_3, 12, 6, .ref told_6), (r0, 7, 1, .ref syntax_3)]) [0, 1, 2] rfl rfl (M1 := []) [] rfl rfl (I1 := [(jFs11, jSef dC dI G0)]) [0] rfl rfl).more hb_295)
        clear hh_26 ht_29 hvm_29 hz_29 hk_29 hS_29 hb_291 hb_292 hb_293 hb_294 hb_295
        obtain ⟨hr_30b, hr_30p⟩ := hr_30
        have hr_30' := jb_01 hr_30b
        refine lv_if_eq (tgt := 254) hx hb dX5_nameFault_246 (by decide) (fun c_31 => ?_) (fun c_31 => ?_)
        · skip
          have c_31' : r_30.toInt = 0 := jb_eq (rfl) ((by decide)) c_31
          refine lv_iconst (v := 0) hx hb dX5_nameFault_254 (by decide) ?_
          rw [hQ]
          exact W.iret (v := 0) hx hb hr (fun t ht hW => ⟨⟨0, (), rfl, trivial, ⟨hh_29.rt (M1 := []) [] rfl ht, by rw [ht]; exact hh_29.2.2.2.2.2.2.2.2.sub (L1 := [(jFs11, jSef dC dI G0)]) [0] rfl⟩⟩, by rw [ht]; try exact hh_29.1.1, fun q h9 hq => by rw [ht]; try exact hh_29.1.2.1 q h9 hq⟩) hh_29.1.2.2 dX5_nameFault_255
        · skip
          have c_31' : r_30.toInt ≠ 0 := jb_eq_n (rfl) ((by decide)) c_31
          refine lv_bipush (v := 6) hx hb dX5_nameFault_249 (by decide) ?_
          refine lv_goto (tgt := 255) hx hb dX5_nameFault_251 (by decide) ?_
          rw [hQ]
          exact W.iret (v := 6) hx hb hr (fun t ht hW => ⟨⟨6, (), rfl, trivial, ⟨hh_29.rt (M1 := []) [] rfl ht, by rw [ht]; exact hh_29.2.2.2.2.2.2.2.2.sub (L1 := [(jFs11, jSef dC dI G0)]) [0] rfl⟩⟩, by rw [ht]; try exact hh_29.1.1, fun q h9 hq => by rw [ht]; try exact hh_29.1.2.1 q h9 hq⟩) hh_29.1.2.2 dX5_nameFault_255
      · skip
        have c_28' : r_27.toInt = 0 := jb_ne_n (rfl) ((by decide)) c_28
        refine lv_iconst (v := 5) hx hb dX5_nameFault_237 (by decide) ?_
        rw [hQ]
        exact W.iret (v := 5) hx hb hr (fun t ht hW => ⟨⟨5, (), rfl, trivial, ⟨hh_26.rt (M1 := []) [] rfl ht, by rw [ht]; exact hh_26.2.2.2.2.2.2.2.2.sub (L1 := [(jFs11, jSef dC dI G0)]) [0] rfl⟩⟩, by rw [ht]; try exact hh_26.1.1, fun q h9 hq => by rw [ht]; try exact hh_26.1.2.1 q h9 hq⟩) hh_26.1.2.2 dX5_nameFault_238
  · refine lv_tableIn (off := 255) (tgt := 283) hx hb dX5_nameFault_28 (by omega) (by omega) (by rw [c_12]; rfl) (by decide) ?_
    refine lv_iconst (v := 0) hx hb dX5_nameFault_283 (by decide) ?_
    rw [hQ]
    exact W.iret (v := 0) hx hb hr (fun t ht hW => ⟨⟨0, (), rfl, trivial, ⟨hh_10.rt (M1 := []) [] rfl ht, by rw [ht]; exact hh_10.2.2.2.2.2.2.2.2.sub (L1 := [(jFs11, jSef dC dI G0)]) [0] rfl⟩⟩, by rw [ht]; try exact hh_10.1.1, fun q h9 hq => by rw [ht]; try exact hh_10.1.2.1 q h9 hq⟩) hh_10.1.2.2 dX5_nameFault_284
  · refine lv_tableIn (off := 84) (tgt := 112) hx hb dX5_nameFault_28 (by omega) (by omega) (by rw [c_12]; rfl) (by decide) ?_
    exact C112  _ _ hh_10 (by first | omega | (refine ⟨?_, ?_⟩ <;> (first | omega | rfl | assumption | decide | exact Or.inl rfl | exact Or.inr rfl | (simp only; omega)))) _ (lv_sub hl [2, 3, 4, 1, 0] rfl)
  · refine lv_tableIn (off := 228) (tgt := 256) hx hb dX5_nameFault_28 (by omega) (by omega) (by rw [c_12]; rfl) (by decide) ?_
    refine lv_aload_n hx hb dX5_nameFault_256 rfl (lv_at hl 3 rfl) ?_
    refine j7_nld_n hx hb dX5_nameFault_257 rfl (lv_at hl 4 rfl) ?_
    refine lv_iload_n hx hb dX5_nameFault_258 rfl (lv_at hl 1 rfl) ?_
    refine va_calli (A0 := jA base) (H0 := s.heap) (va_runS (As := [.ref r1, .null, .int z_7]) (rest := []) ⟨hx, hb, hml, hown, hts⟩ (uX5_isTakenZ l dC dI ca base B hB hAp hB5 hB11 hB101 G0 s.heap r1 z_7) (va_cwS 3 hts (jgS (jWr_81 _ (List.mem_of_getElem? (i := 11) rfl)) (jWr_81 _ (List.mem_of_getElem? (i := 12) rfl)) (jWr_2 _ (List.mem_of_getElem? (i := 4) rfl)) (jWr_81 _ (List.mem_of_getElem? (i := 13) rfl))) rfl rfl rfl (by decide +kernel) ⟨by rw [← hR]; exact Nat.le_of_ble_eq_true rfl, by rw [← hR]; exact Nat.le_of_ble_eq_true rfl⟩) ⟨fun a U g mk q => by obtain ⟨q0, q1, q2, qK, q10, q11, q12⟩ := q; exact ⟨q0, q1, q2, jG.calling g mk a qK, q10, q11, q12⟩, fun U hU hW => ⟨rfl, hU, hh_10.2.1, hG.step hW hU hh_10.1, hg_r1, jP.nil, trivial⟩⟩ rfl rfl hl.1 rfl (lv_room (Nat.le_of_ble_eq_true rfl)) dX5_nameFault_259 ⟨Nat.zero_le _, Nat.zero_le _⟩) hh_10.1 (fun q _ h => h) (fun q h => h) (fun r_33 u_32 t_32 H_32 locs_32 ht_32 hvm_32 hr_33 hb_32 hz_32 hk_32 hS_32 => ?_)
    rw [ht_32] at hb_32
    obtain ⟨hb_321, hb_322, hb_323, hb_324, hb_325⟩ := hb_32
    have hh_32 : jSt (dC, dI) B base G0 G0 EX5_nameFaultZ s.heap 0 0 [(syntax_3, 12, 5, .int word_11), (syntax_3, 12, 6, .ref told_6), (r0, 7, 1, .ref syntax_3)] [] [(jFs11, jSef dC dI G0)] H_32 locs_32 := ((hh_10.call hb_321 hb_322 hb_323 hb_324 hS_32 rfl (L1 := [(syntax_3, 12, 5, .int word_11), (syntax_3, 12, 6, .ref told_6), (r0, 7, 1, .ref syntax_3)]) [0, 1, 2] rfl rfl (M1 := []) [] rfl rfl (I1 := [(jFs11, jSef dC dI G0)]) [0] rfl rfl).more hb_325)
    clear hh_10 ht_32 hvm_32 hz_32 hk_32 hS_32 hb_321 hb_322 hb_323 hb_324 hb_325
    obtain ⟨hr_33b, hr_33p⟩ := hr_33
    have hr_33' := jb_01 hr_33b
    refine lv_if_eq (tgt := 268) hx hb dX5_nameFault_262 (by decide) (fun c_34 => ?_) (fun c_34 => ?_)
    · skip
      have c_34' : r_33.toInt = 0 := jb_eq (rfl) ((by decide)) c_34
      refine lv_aload_n hx hb dX5_nameFault_268 rfl (lv_at hl 2 rfl) ?_
      refine lv_aload_n hx hb dX5_nameFault_269 rfl (lv_at hl 3 rfl) ?_
      refine j7_nld_n hx hb dX5_nameFault_270 rfl (lv_at hl 4 rfl) ?_
      refine va_calli (A0 := jA base) (H0 := s.heap) (va_runV (As := [.ref r1, .null]) (rest := []) ⟨hx, hb, hml, hown, hts⟩ (uX5_isResolvedZ l dC dI ca base B hB hAp hB5 hB7 hB11 hB12 hB101 hB280 G0 H_32 r0 r1) (cwV 2 hts (jgV (jWr_82 _ (List.mem_of_getElem? (i := 13) rfl)) (jWr_82 _ (List.mem_of_getElem? (i := 14) rfl)) (jWr_82 _ (List.mem_of_getElem? (i := 15) rfl)) (jWr_2 _ (List.mem_of_getElem? (i := 4) rfl)) (jWr_82 _ (List.mem_of_getElem? (i := 16) rfl))) rfl rfl rfl (by decide +kernel) ⟨by rw [← hR]; exact Nat.le_of_ble_eq_true rfl, by rw [← hR]; exact Nat.le_of_ble_eq_true rfl⟩) ⟨fun a U g mk q => by obtain ⟨q0, q1, q2, qK, q10, q11, q12, q13⟩ := q; exact ⟨q0, q1, q2, jG.calling g mk a qK, q10, q11, q12, q13⟩, hh_32.recv (C := RX5) (T := TX5) (N := 11) hB7 rfl (by decide) hg_r0 hK, fun U hU hW => ⟨rfl, hU, hh_32.2.1, hG.step hW hU hh_32.1, hg_r0, hg_r1, jP.nil, trivial⟩⟩ rfl rfl hl.1 rfl (lv_room (Nat.le_of_ble_eq_true rfl)) dX5_nameFault_271 ⟨Nat.zero_le _, Nat.zero_le _⟩) hh_32.1 (fun q _ h => h) (fun q h => h) (fun r_36 u_35 t_35 H_35 locs_35 ht_35 hvm_35 hr_36 hb_35 hz_35 hk_35 hS_35 => ?_)
      rw [ht_35] at hb_35
      obtain ⟨hb_351, hb_352, hb_353, hb_354, hb_355⟩ := hb_35
      have hh_35 : jSt (dC, dI) B base G0 G0 EX5_nameFaultZ s.heap 0 0 [(syntax_3, 12, 5, .int word_11), (syntax_3, 12, 6, .ref told_6), (r0, 7, 1, .ref syntax_3)] [] [(jFs11, jSef dC dI G0)] H_35 locs_35 := ((hh_32.call hb_351 hb_352 hb_353 hb_354 hS_35 rfl (L1 := [(syntax_3, 12, 5, .int word_11), (syntax_3, 12, 6, .ref told_6), (r0, 7, 1, .ref syntax_3)]) [0, 1, 2] rfl rfl (M1 := []) [] rfl rfl (I1 := [(jFs11, jSef dC dI G0)]) [0] rfl rfl).more hb_355)
      clear hh_32 ht_35 hvm_35 hz_35 hk_35 hS_35 hb_351 hb_352 hb_353 hb_354 hb_355
      obtain ⟨hr_36b, hr_36p⟩ := hr_36
      have hr_36' := jb_01 hr_36b
      refine lv_if_eq (tgt := 281) hx hb dX5_nameFault_274 (by decide) (fun c_37 => ?_) (fun c_37 => ?_)
      · skip
        have c_37' : r_36.toInt = 0 := jb_eq (rfl) ((by decide)) c_37
        refine lv_iconst (v := 5) hx hb dX5_nameFault_281 (by decide) ?_
        rw [hQ]
        exact W.iret (v := 5) hx hb hr (fun t ht hW => ⟨⟨5, (), rfl, trivial, ⟨hh_35.rt (M1 := []) [] rfl ht, by rw [ht]; exact hh_35.2.2.2.2.2.2.2.2.sub (L1 := [(jFs11, jSef dC dI G0)]) [0] rfl⟩⟩, by rw [ht]; try exact hh_35.1.1, fun q h9 hq => by rw [ht]; try exact hh_35.1.2.1 q h9 hq⟩) hh_35.1.2.2 dX5_nameFault_282
      · skip
        have c_37' : r_36.toInt ≠ 0 := jb_eq_n (rfl) ((by decide)) c_37
        refine lv_iconst (v := 0) hx hb dX5_nameFault_277 (by decide) ?_
        refine lv_goto (tgt := 282) hx hb dX5_nameFault_278 (by decide) ?_
        rw [hQ]
        exact W.iret (v := 0) hx hb hr (fun t ht hW => ⟨⟨0, (), rfl, trivial, ⟨hh_35.rt (M1 := []) [] rfl ht, by rw [ht]; exact hh_35.2.2.2.2.2.2.2.2.sub (L1 := [(jFs11, jSef dC dI G0)]) [0] rfl⟩⟩, by rw [ht]; try exact hh_35.1.1, fun q h9 hq => by rw [ht]; try exact hh_35.1.2.1 q h9 hq⟩) hh_35.1.2.2 dX5_nameFault_282
    · skip
      have c_34' : r_33.toInt ≠ 0 := jb_eq_n (rfl) ((by decide)) c_34
      refine lv_bipush (v := 6) hx hb dX5_nameFault_265 (by decide) ?_
      rw [hQ]
      exact W.iret (v := 6) hx hb hr (fun t ht hW => ⟨⟨6, (), rfl, trivial, ⟨hh_32.rt (M1 := []) [] rfl ht, by rw [ht]; exact hh_32.2.2.2.2.2.2.2.2.sub (L1 := [(jFs11, jSef dC dI G0)]) [0] rfl⟩⟩, by rw [ht]; try exact hh_32.1.1, fun q h9 hq => by rw [ht]; try exact hh_32.1.2.1 q h9 hq⟩) hh_32.1.2.2 dX5_nameFault_267
set_option maxHeartbeats 4000000 in
set_option maxRecDepth 20000 in
theorem uX5_declare (l : Launch) (dC : Nat → ClassId) (dI : Nat → Nat → Nat) (ca : Nat → ClassId) (base : Nat) (B : jF) (hB : jBok B) (hAp : jAp (dC, dI)) (hB5 : ∀ n G a H, B 5 n G a H ↔ jOb (dC, dI) 5 4 (F5 n G) a H) (hB7 : ∀ n G a H, B 7 n G a H ↔ jOb (dC, dI) 7 11 (F7 n G) a H) (hB11 : ∀ n G a H, B 11 n G a H ↔ jOb (dC, dI) 11 9 (F11 n G) a H) (hB12 : ∀ n G a H, B 12 n G a H ↔ jOb (dC, dI) 12 11 (F12b n G) a H) (hB101 : ∀ n G a H, B 101 n G a H ↔ jAr (dC, dI) (ca 1) (fun j z => True) n a H) (hB292 : ∀ n G a H, B 292 n G a H ↔ jAr (dC, dI) (ca 1) (fun j z => 0 ≤ z.toInt ∧ z.toInt ≤ 8191) n a H) (G0 : jT) (H0 : Heap) (r0 : Nat) (r1 : Nat) (LC LS : Nat) : Met l yX5_declare (jw yX5_declare cX5_declare 4 (some .int)) ({ frames := 3, cells := LC - H0.size, slots := LS - jTot H0, locals := 105 }) (va_Pc [.ref r0, .ref r1] (fun U => U.heap = H0 ∧ jX B base G0 [] H0 ∧ jG dC dI ca base U ∧ G0 r0 = some (7, 0) ∧ G0 r1 = some (11, 0) ∧ jP (dC, dI) G0 H0 [] ∧ H0.size + 1 ≤ LC ∧ jTot H0 + 17 ≤ LS ∧ True)) (va_Qi (S := jT) (fun r u => (True)) (fun u t => jRa (dC, dI) B base G0 u EX5_declare H0 (1) (17) [] t.heap ∧ (jNk [0, 1, 2, 3, 4, 5, 6, 7, 8, 9, 10, 11, 12, 13, 14, 15, 16, 17, 175]) G0 u) (jA base)) (LC - H0.size) (LS - jTot H0) (jA base) := by
  refine Met.ofW (cc := cX5_declare) (maxL := 4) (ret := (some .int)) (by decide) rfl ?_
  intro p e s m args below meth c s₁ Bd hml hv
  obtain ⟨rfl, hH0, hX, hG, hg_r0, hg_r1, hP0, hLC0, hLS0, hp0⟩ := hv
  have hK := hG.1
  have hx := Bd.exec
  have hb := Bd.bytes
  have hr := Bd.returns
  have hts := atoms_spec (ws := (jw yX5_declare cX5_declare 4 (some .int))) Bd.pre
  have htw : ∀ w ∈ jWl, w.before _ s = true := fun w h => hts w (List.mem_cons_of_mem _ h)
  have hown : s.vm.findClass RX5 = some m.cls := findClass_of_methodNamed Bd.named
  have hlocks := Bd.notSynchronized
  obtain ⟨Q, hQ⟩ : ∃ Q, Q = MQ below (va_Qi (S := jT) (fun r u => (True)) (fun u t => jRa (dC, dI) B base G0 u EX5_declare H0 (1) (17) [] t.heap ∧ (jNk [0, 1, 2, 3, 4, 5, 6, 7, 8, 9, 10, 11, 12, 13, 14, 15, 16, 17, 175]) G0 u) (jA base)) ([.ref r0, .ref r1] : List Value).toArray s (LC - H0.size) (LS - jTot H0) (jA base) := ⟨_, rfl⟩
  rw [← hQ]
  have hl := lv_entry ([.ref r0, .ref r1]) (n := 4) (Nat.le_of_ble_eq_true rfl)
  rw [lg_entry_eq]
  generalize (lg_sl ([.ref r0, .ref r1]) ++ List.replicate (4 - (lg_sl ([.ref r0, .ref r1])).length) Slot.unset).toArray = ls at hl ⊢
  have hl : lv_has ls 4 [(0, .ref r0), (1, .ref r1)] := hl
  generalize hR : (headSpec (jw yX5_declare cX5_declare 4 (some .int)) ({ frames := 3, cells := LC - H0.size, slots := LS - jTot H0, locals := 105 })).room = R
  subst hH0
  have hh : jSt (dC, dI) B base G0 G0 EX5_declare s.heap 0 0 [] [] [] s.heap [] := jSt.start hX hP0 jMc.nil jIs.nil
  clear hX hP0
  have hk0 : (0 : Int32).toInt = 0 := by decide
  have hk1 : (1 : Int32).toInt = 1 := by decide
  have hk3 : (3 : Int32).toInt = 3 := by decide
  have hk4 : (4 : Int32).toInt = 4 := by decide
  have hk6 : (6 : Int32).toInt = 6 := by decide
  have hk7 : (7 : Int32).toInt = 7 := by decide
  have hk8 : (8 : Int32).toInt = 8 := by decide
  have hk9 : (9 : Int32).toInt = 9 := by decide
  have hk15 : (15 : Int32).toInt = 15 := by decide
  have hk16 : (16 : Int32).toInt = 16 := by decide
  have hly_7_1 := htw (u_lay RX5 TX5 1) (jWc_wsX50 _ (u_in_lay (by decide)))
  have hly_11_3 := htw (u_lay RX9 TX9 3) (jWc_wsX90 _ (u_in_lay (by decide)))
  have hly_12_5 := htw (u_lay RX10 TX10 5) (jWc_wsX100 _ (u_in_lay (by decide)))
  have hly_12_6 := htw (u_lay RX10 TX10 6) (jWc_wsX100 _ (u_in_lay (by decide)))
  have hly_12_8 := htw (u_lay RX10 TX10 8) (jWc_wsX100 _ (u_in_lay (by decide)))
  have hlk_23 := (htw (.fieldLink RX5 23 "ProofServer$Kernel" "syntax" "LProofServer$Syntax;") (jWr_4 _ (List.mem_of_getElem? (i := 15) rfl)))
  have hlk_93 := (htw (.fieldLink RX5 93 "ProofServer$Syntax" "told" "[I") (jWr_81 _ (List.mem_of_getElem? (i := 8) rfl)))
  have hlk_100 := (htw (.fieldLink RX5 100 "ProofServer$State" "symbols" "[I") (jWr_81 _ (List.mem_of_getElem? (i := 9) rfl)))
  have hlk_74 := (htw (.fieldLink RX5 74 "ProofServer$Syntax" "word" "I") (jWr_78 _ (List.mem_of_getElem? (i := 19) rfl)))
  have hlk_103 := (htw (.fieldLink RX5 103 "ProofServer$Syntax" "terms" "I") (jWr_81 _ (List.mem_of_getElem? (i := 10) rfl)))
  have hbs : base ≤ s.heap.size := Nat.le_of_lt (Nat.lt_of_le_of_lt (hh.ab hg_r0).1 (hh.ab hg_r0).2)
  have hRc : R.cells = LC - s.heap.size := by rw [← hR]; rfl
  have hRs : R.slots = LS - jTot s.heap := by rw [← hR]; rfl
  refine lv_aload_n hx hb dX5_declare_0 rfl (lv_at hl 0 rfl) ?_
  obtain ⟨v_1, hv_1, hh_2⟩ := hh.pin (C := RX5) (T := TX5) (N := 11) hB7 rfl (by decide) hg_r0 (i := 1) (by decide) rfl
  clear hh
  obtain ⟨syntax_3, rfl, hg_syntax_3⟩ := hv_1
  refine j7_read hx hb hown hK (C := RX5) (T := TX5) (N := 11) rfl hly_7_1 hlk_23 (hh_2.at 0 rfl) dX5_declare_1 ?_
  obtain ⟨v_4, hv_4, hh_5⟩ := hh_2.pin (C := RX10) (T := TX10) (N := 11) hB12 rfl (by decide) hg_syntax_3 (i := 6) (by decide) rfl
  clear hh_2
  obtain ⟨told_6, rfl, hg_told_6⟩ := hv_4
  refine j7_read hx hb hown hK (C := RX10) (T := TX10) (N := 11) rfl hly_12_6 hlk_93 (hh_5.at 0 rfl) dX5_declare_4 ?_
  refine lv_iconst (v := 0) hx hb dX5_declare_7 (by decide) ?_
  refine j7_iald hx hb hK hh_5 hB292 1 rfl (by decide) hg_told_6 (x := 0) ((by decide)) (by omega) dX5_declare_8 (fun z_7 (hz_7 : 0 ≤ z_7.toInt ∧ z_7.toInt ≤ 8191) => ?_)
  refine lv_istore_n (lv' := [(2, .int z_7), (0, .ref r0), (1, .ref r1)]) hx hb dX5_declare_9 rfl hl (by decide) rfl (fun ls hl => ?_)
  refine lv_aload_n hx hb dX5_declare_10 rfl (lv_at hl 2 rfl) ?_
  refine lv_null hx hb dX5_declare_11 ?_
  refine lv_iload_n hx hb dX5_declare_12 rfl (lv_at hl 0 rfl) ?_
  have hsz_8 := hh_5.2.2.2.2.2.1
  have htt_8 := hh_5.2.2.2.2.2.2.1
  refine W.room (fun hrc_8 hrs_8 => ?_)
  refine va_calli (A0 := jA base) (H0 := s.heap) (va_runS (As := [.ref r1, .null, .int z_7]) (rest := []) ⟨hx, hb, hml, hown, hts⟩ (uX5_isTakenZ l dC dI ca base B hB hAp hB5 hB11 hB101 G0 s.heap r1 z_7) (va_cwS 3 hts (jgS (jWr_81 _ (List.mem_of_getElem? (i := 11) rfl)) (jWr_81 _ (List.mem_of_getElem? (i := 12) rfl)) (jWr_2 _ (List.mem_of_getElem? (i := 4) rfl)) (jWr_81 _ (List.mem_of_getElem? (i := 13) rfl))) rfl rfl rfl (by decide +kernel) ⟨by rw [← hR]; exact Nat.le_of_ble_eq_true rfl, by rw [← hR]; exact Nat.le_of_ble_eq_true rfl⟩) ⟨fun a U g mk q => by obtain ⟨q0, q1, q2, qK, q10, q11, q12⟩ := q; exact ⟨q0, q1, q2, jG.calling g mk a qK, q10, q11, q12⟩, fun U hU hW => ⟨rfl, hU, hh_5.2.1, hG.step hW hU hh_5.1, hg_r1, jP.nil, trivial⟩⟩ rfl rfl hl.1 rfl (lv_room (Nat.le_of_ble_eq_true rfl)) dX5_declare_13 ⟨by rw [hRc]; show _ + 0 ≤ _; omega, by rw [hRs]; show _ + 0 ≤ _; omega⟩) hh_5.1 (fun q _ h => h) (fun q h => h) (fun r_9 u_8 t_8 H_8 locs_8 ht_8 hvm_8 hr_9 hb_8 hz_8 hk_8 hS_8 => ?_)
  rw [ht_8] at hb_8
  obtain ⟨hb_81, hb_82, hb_83, hb_84, hb_85⟩ := hb_8
  have hh_8 : jSt (dC, dI) B base G0 G0 EX5_declare s.heap 0 0 [(syntax_3, 12, 6, .ref told_6), (r0, 7, 1, .ref syntax_3)] [] [] H_8 locs_8 := ((hh_5.call hb_81 hb_82 hb_83 hb_84 hS_8 rfl (L1 := [(syntax_3, 12, 6, .ref told_6), (r0, 7, 1, .ref syntax_3)]) [0, 1] rfl rfl (M1 := []) [] rfl rfl (I1 := []) [] rfl rfl).more hb_85)
  clear hh_5 ht_8 hvm_8 hz_8 hk_8 hS_8 hb_81 hb_82 hb_83 hb_84 hb_85
  obtain ⟨hr_9b, hr_9p⟩ := hr_9
  have hr_9' := jb_01 hr_9b
  refine lv_if_eq (tgt := 22) hx hb dX5_declare_16 (by decide) (fun c_10 => ?_) (fun c_10 => ?_)
  · skip
    have c_10' : r_9.toInt = 0 := jb_eq (rfl) ((by decide)) c_10
    refine lv_aload_n hx hb dX5_declare_22 rfl (lv_at hl 2 rfl) ?_
    obtain ⟨v_11, hv_11, hh_12⟩ := hh_8.pin (C := RX9) (T := TX9) (N := 9) hB11 rfl (by decide) hg_r1 (i := 3) (by decide) rfl
    clear hh_8
    obtain ⟨symbols_13, nsymbols_13, rfl, hg_symbols_13, hn_symbols_13⟩ := hv_11
    refine j7_read hx hb hown hK (C := RX9) (T := TX9) (N := 9) rfl hly_11_3 hlk_100 (hh_12.at 0 rfl) dX5_declare_23 ?_
    refine j7_len hx hb hK hh_12 hB101 1 rfl (by decide) hg_symbols_13 (by omega) dX5_declare_26 (fun z_14 hz_14 => ?_)
    refine lv_bipush (v := 16) hx hb dX5_declare_27 (by decide) ?_
    refine lv_icmp_lt (tgt := 35) hx hb dX5_declare_29 (by decide) (fun c_15 => ?_) (fun c_15 => ?_)
    · skip
      have c_15' : z_14.toInt < 16 := jb_lt (rfl) ((by decide)) c_15
      refine lv_aload_n hx hb dX5_declare_35 rfl (lv_at hl 1 rfl) ?_
      refine j7_read hx hb hown hK (C := RX5) (T := TX5) (N := 11) rfl hly_7_1 hlk_23 (hh_12.at 2 rfl) dX5_declare_36 ?_
      obtain ⟨v_16, hv_16, hh_17⟩ := hh_12.pin (C := RX10) (T := TX10) (N := 11) hB12 rfl (by decide) hg_syntax_3 (i := 5) (by decide) rfl
      clear hh_12
      obtain ⟨word_18, rfl⟩ := hv_16
      refine j7_read hx hb hown hK (C := RX10) (T := TX10) (N := 11) rfl hly_12_5 hlk_74 (hh_17.at 0 rfl) dX5_declare_39 ?_
      refine lv_iconst (v := 3) hx hb dX5_declare_42 (by decide) ?_
      have C53 : ∀ (w0_19 : Int32) (H_19 : Heap) (locs_19 : List Loc), jSt (dC, dI) B base G0 G0 EX5_declare s.heap 0 0 [(syntax_3, 12, 5, .int word_18), (r1, 11, 3, .ref symbols_13), (syntax_3, 12, 6, .ref told_6), (r0, 7, 1, .ref syntax_3)] [] [] H_19 locs_19 → (True) → ∀ ls : Array Slot, lv_has ls 4 [(0, .ref r0), (1, .ref r1), (2, .int z_7)] → W p l e R s m ([.ref r0, .ref r1] : List Value).toArray below meth c H_19 locs_19 0 0 Q (F0 m 53 ls [.int w0_19]) := by
        intro w0_19 H_19 locs_19 hh_19  hi_19 ls hl
        refine lv_istore_n (lv' := [(3, .int w0_19), (0, .ref r0), (1, .ref r1), (2, .int z_7)]) hx hb dX5_declare_53 rfl hl (by decide) rfl (fun ls hl => ?_)
        refine lv_aload_n hx hb dX5_declare_54 rfl (lv_at hl 2 rfl) ?_
        refine lv_aload_n hx hb dX5_declare_55 rfl (lv_at hl 2 rfl) ?_
        refine j7_read hx hb hown hK (C := RX9) (T := TX9) (N := 9) rfl hly_11_3 hlk_100 (hh_19.at 1 rfl) dX5_declare_56 ?_
        refine lv_iload_n hx hb dX5_declare_59 rfl (lv_at hl 0 rfl) ?_
        refine lv_aload_n hx hb dX5_declare_60 rfl (lv_at hl 1 rfl) ?_
        refine j7_read hx hb hown hK (C := RX5) (T := TX5) (N := 11) rfl hly_7_1 hlk_23 (hh_19.at 3 rfl) dX5_declare_61 ?_
        obtain ⟨v_20, hv_20, hh_21⟩ := hh_19.pin (C := RX10) (T := TX10) (N := 11) hB12 rfl (by decide) hg_syntax_3 (i := 8) (by decide) rfl
        clear hh_19
        obtain ⟨terms_22, rfl⟩ := hv_20
        refine j7_read hx hb hown hK (C := RX10) (T := TX10) (N := 11) rfl hly_12_8 hlk_103 (hh_21.at 0 rfl) dX5_declare_64 ?_
        refine lv_iconst (v := 4) hx hb dX5_declare_67 (by decide) ?_
        refine lv_ishl hx hb dX5_declare_68 ?_
        refine lv_topi (fun z_23 ez_23 => ?_)
        refine lv_ior hx hb dX5_declare_69 ?_
        refine lv_topi (fun z_24 ez_24 => ?_)
        refine lv_iload_n hx hb dX5_declare_70 rfl (lv_at hl 3 rfl) ?_
        refine lv_bipush (v := 15) hx hb dX5_declare_71 (by decide) ?_
        refine lv_ishl hx hb dX5_declare_73 ?_
        refine lv_topi (fun z_25 ez_25 => ?_)
        refine lv_ior hx hb dX5_declare_74 ?_
        refine lv_topi (fun z_26 ez_26 => ?_)
        have hsz_27 := hh_21.2.2.2.2.2.1
        have htt_27 := hh_21.2.2.2.2.2.2.1
        refine W.room (fun hrc_27 hrs_27 => ?_)
        refine j_callx (A0 := jA base) (H0 := s.heap) (va_runS (As := [.ref symbols_13, .int z_26]) (rest := [.ref r1]) ⟨hx, hb, hml, hown, hts⟩ (uX9_longer l dC dI ca base B hB hAp hB101 G0 H_19 symbols_13 z_26 nsymbols_13 LC LS) (va_cwS 2 hts (jgS (jWr_81 _ (List.mem_of_getElem? (i := 19) rfl)) (jWr_81 _ (List.mem_of_getElem? (i := 20) rfl)) (jWr_4 _ (List.mem_of_getElem? (i := 18) rfl)) (jWr_81 _ (List.mem_of_getElem? (i := 21) rfl))) rfl rfl rfl (by decide +kernel) ⟨by rw [← hR]; exact Nat.le_of_ble_eq_true rfl, by rw [← hR]; exact Nat.le_of_ble_eq_true rfl⟩) ⟨fun a U g mk q => by obtain ⟨q0, q1, q2, qK, q10, q11, q12⟩ := q; exact ⟨q0, q1, q2, jG.calling g mk a qK, q10, q11, q12⟩, fun U hU hW => ⟨rfl, hU, hh_21.2.1, hG.step hW hU hh_21.1, hg_symbols_13, jP.nil, by first | omega | rfl | assumption | decide | exact Or.inl rfl | exact Or.inr rfl | (simp only; omega)⟩⟩ rfl rfl hl.1 rfl (lv_room (Nat.le_of_ble_eq_true rfl)) dX5_declare_75 ⟨by rw [hRc]; omega, by rw [hRs]; omega⟩) hh_21.1 (fun q _ h => h) (fun q h => h) (fun r_28 u_27 t_27 H_27 locs_27 ht_27 hvm_27 hr_28 hb_27 hz_27 hk_27 hS_27 => ?_)
        rw [ht_27] at hb_27
        obtain ⟨m_ret_27, G_27⟩ := u_27
        simp only at hb_27
        obtain ⟨⟨hb_271, hb_272, hb_273, hb_274, hb_275, hb_276⟩, hN_27, hbK_27⟩ := hb_27
        have hh_27 : jSt (dC, dI) B base G0 G_27 EX5_declare s.heap (0 + (1)) (0 + (m_ret_27)) [(syntax_3, 12, 8, .int terms_22), (syntax_3, 12, 5, .int word_18), (r1, 11, 3, .ref symbols_13), (syntax_3, 12, 6, .ref told_6), (r0, 7, 1, .ref syntax_3)] [] [] H_27 locs_27 := (hh_21.callG hb_271 hb_272 hb_273 hb_274 hb_275 hS_27 rfl (L1 := [(syntax_3, 12, 8, .int terms_22), (syntax_3, 12, 5, .int word_18), (r1, 11, 3, .ref symbols_13), (syntax_3, 12, 6, .ref told_6), (r0, 7, 1, .ref syntax_3)]) [0, 1, 2, 3, 4] rfl rfl (M1 := []) [] rfl rfl (I1 := []) [] rfl rfl).more hb_276
        have hNn_27 : (jNk [0, 1, 2, 3, 4, 5, 6, 7, 8, 9, 10, 11, 12, 13, 14, 15, 16, 17, 175]) G0 G_27 := (jNk.rf).tr hN_27
        have hg_29 := hb_272 _ _ hg_r0
        have hg_30 := hb_272 _ _ hg_r1
        have hg_31 := hb_272 _ _ hg_symbols_13
        have hg_32 := hb_272 _ _ hg_told_6
        have hg_33 := hb_272 _ _ hg_syntax_3
        obtain ⟨hr_28, hr_28n, hr_28p⟩ := hr_28
        try simp only at hr_28p
        obtain ⟨ret_34, rfl, hg_ret_34⟩ := hr_28
        have hsy_27 : s.heap.size ≤ ret_34 := Nat.le_trans hh_21.1.1 hr_28n.le
        refine j7_put hx hb hown hK hh_27 hB hAp hB11 (C := RX9) (T := TX9) (N := 9) rfl (by decide) hg_30 (i := 3) (by decide) hly_11_3 rfl hlk_100 rfl (ty := (.array .int)) (v := .ref ret_34) (by decide +kernel) rfl rfl (⟨_, _, rfl, hg_ret_34, by omega⟩) rfl (L1 := [(syntax_3, 12, 8, .int terms_22), (syntax_3, 12, 5, .int word_18), (syntax_3, 12, 6, .ref told_6), (r0, 7, 1, .ref syntax_3)]) [0, 1, 3, 4] rfl rfl rfl dX5_declare_78 (fun H_35 locs_35 hh_35 => ?_)
        clear hh_27
        refine lv_iconst (v := 0) hx hb dX5_declare_81 (by decide) ?_
        have hsz_36 := hh_35.2.2.2.2.2.1
        have htt_36 := hh_35.2.2.2.2.2.2.1
        refine W.room (fun hrc_36 hrs_36 => ?_)
        refine W.widen (k := LC - s.heap.size) (n := LS - jTot s.heap) (by omega) (by omega) ?_
        rw [hQ]
        exact W.iret (v := 0) hx hb hr (fun t ht hW => ⟨⟨0, G_27, rfl, trivial, ⟨hh_35.ra (by first | omega | (simp only; omega)) (by first | omega | (simp only; omega)) (M1 := []) [] rfl ht, hNn_27⟩⟩, by rw [ht]; try exact hh_35.1.1, fun q h9 hq => by rw [ht]; try exact hh_35.1.2.1 q h9 hq⟩) hh_35.1.2.2 dX5_declare_82
      refine lv_icmp_ne (tgt := 51) hx hb dX5_declare_43 (by decide) (fun c_37 => ?_) (fun c_37 => ?_)
      · skip
        have c_37' : word_18.toInt ≠ 3 := jb_ne (rfl) ((by decide)) c_37
        refine lv_bipush (v := 7) hx hb dX5_declare_51 (by decide) ?_
        refine W.tight (c2 := 0) (n2 := 0) hh_17.2.2.2.2.2.1 hh_17.2.2.2.2.2.2.1 ?_
        exact C53 7 _ _ hh_17 (trivial) _ (lv_sub hl [1, 2, 0] rfl)
      · skip
        have c_37' : word_18.toInt = 3 := jb_ne_n (rfl) ((by decide)) c_37
        refine lv_bipush (v := 8) hx hb dX5_declare_46 (by decide) ?_
        refine lv_goto (tgt := 53) hx hb dX5_declare_48 (by decide) ?_
        refine W.tight (c2 := 0) (n2 := 0) hh_17.2.2.2.2.2.1 hh_17.2.2.2.2.2.2.1 ?_
        exact C53 8 _ _ hh_17 (trivial) _ (lv_sub hl [1, 2, 0] rfl)
    · skip
      have c_15' : z_14.toInt ≥ 16 := jb_lt_n (rfl) ((by decide)) c_15
      refine lv_bipush (v := 9) hx hb dX5_declare_32 (by decide) ?_
      have hsz_38 := hh_12.2.2.2.2.2.1
      have htt_38 := hh_12.2.2.2.2.2.2.1
      refine W.room (fun hrc_38 hrs_38 => ?_)
      refine W.widen (k := LC - s.heap.size) (n := LS - jTot s.heap) (by omega) (by omega) ?_
      rw [hQ]
      exact W.iret (v := 9) hx hb hr (fun t ht hW => ⟨⟨9, G0, rfl, trivial, ⟨hh_12.ra (by first | omega | (simp only; omega)) (by first | omega | (simp only; omega)) (M1 := []) [] rfl ht, jNk.rf⟩⟩, by rw [ht]; try exact hh_12.1.1, fun q h9 hq => by rw [ht]; try exact hh_12.1.2.1 q h9 hq⟩) hh_12.1.2.2 dX5_declare_34
  · skip
    have c_10' : r_9.toInt ≠ 0 := jb_eq_n (rfl) ((by decide)) c_10
    refine lv_bipush (v := 6) hx hb dX5_declare_19 (by decide) ?_
    have hsz_39 := hh_8.2.2.2.2.2.1
    have htt_39 := hh_8.2.2.2.2.2.2.1
    refine W.room (fun hrc_39 hrs_39 => ?_)
    refine W.widen (k := LC - s.heap.size) (n := LS - jTot s.heap) (by omega) (by omega) ?_
    rw [hQ]
    exact W.iret (v := 6) hx hb hr (fun t ht hW => ⟨⟨6, G0, rfl, trivial, ⟨hh_8.ra (by first | omega | (simp only; omega)) (by first | omega | (simp only; omega)) (M1 := []) [] rfl ht, jNk.rf⟩⟩, by rw [ht]; try exact hh_8.1.1, fun q h9 hq => by rw [ht]; try exact hh_8.1.2.1 q h9 hq⟩) hh_8.1.2.2 dX5_declare_21
set_option maxHeartbeats 4000000 in
set_option maxRecDepth 20000 in
theorem uX5_propose (l : Launch) (dC : Nat → ClassId) (dI : Nat → Nat → Nat) (ca : Nat → ClassId) (base : Nat) (B : jF) (hB : jBok B) (hAp : jAp (dC, dI)) (hB5 : ∀ n G a H, B 5 n G a H ↔ jOb (dC, dI) 5 4 (F5 n G) a H) (hB7 : ∀ n G a H, B 7 n G a H ↔ jOb (dC, dI) 7 11 (F7 n G) a H) (hB11 : ∀ n G a H, B 11 n G a H ↔ jOb (dC, dI) 11 9 (F11 n G) a H) (hB12 : ∀ n G a H, B 12 n G a H ↔ jOb (dC, dI) 12 11 (F12b n G) a H) (hB101 : ∀ n G a H, B 101 n G a H ↔ jAr (dC, dI) (ca 1) (fun j z => True) n a H) (hB214 : ∀ n G a H, B 214 n G a H ↔ jAq (dC, dI) (ca 7) (jQg) n G a H) (hB280 : ∀ n G a H, B 280 n G a H ↔ jAr (dC, dI) (ca 1) (fun j z => -1 ≤ z.toInt) n a H) (hB292 : ∀ n G a H, B 292 n G a H ↔ jAr (dC, dI) (ca 1) (fun j z => 0 ≤ z.toInt ∧ z.toInt ≤ 8191) n a H) (hB313 : ∀ n G a H, B 313 n G a H ↔ jAq (dC, dI) (ca 8) (jQk 280 80) n G a H) (G0 : jT) (H0 : Heap) (r0 : Nat) (r1 : Nat) (LC LS : Nat) : Met l yX5_propose (jw yX5_propose cX5_propose 5 (some .int)) ({ frames := 4, cells := LC - H0.size, slots := LS - jTot H0, locals := 127 }) (va_Pc [.ref r0, .ref r1] (fun U => U.heap = H0 ∧ jX B base G0 [] H0 ∧ jG dC dI ca base U ∧ jK2 dC dI ca U ∧ jK5 dC dI ca U ∧ jK6 U ∧ G0 r0 = some (7, 0) ∧ G0 r1 = some (11, 0) ∧ jP (dC, dI) G0 H0 [] ∧ jIs (dC, dI) G0 H0 [(jFs11, jSef dC dI G0)] ∧ H0.size + 8 ≤ LC ∧ jTot H0 + 160 ≤ LS ∧ True)) (va_Qi (S := jT) (fun r u => (True)) (fun u t => jRa (dC, dI) B base G0 u EX5_propose H0 (8) (160) [] t.heap ∧ (jNk [0, 1, 2, 3, 4, 6, 7, 8, 9, 10, 11, 12, 13, 14, 15, 16, 17, 175]) G0 u ∧ jIs (dC, dI) u t.heap [(jFs11, jSef dC dI u)]) (jA base)) (LC - H0.size) (LS - jTot H0) (jA base) := by
  refine Met.ofW (cc := cX5_propose) (maxL := 5) (ret := (some .int)) (by decide) rfl ?_
  intro p e s m args below meth c s₁ Bd hml hv
  obtain ⟨rfl, hH0, hX, hG, hK2, hK5, hK6, hg_r0, hg_r1, hP0, hI0, hLC0, hLS0, hp0⟩ := hv
  have hK := hG.1
  have hx := Bd.exec
  have hb := Bd.bytes
  have hr := Bd.returns
  have hts := atoms_spec (ws := (jw yX5_propose cX5_propose 5 (some .int))) Bd.pre
  have htw : ∀ w ∈ jWl, w.before _ s = true := fun w h => hts w (List.mem_cons_of_mem _ h)
  have hown : s.vm.findClass RX5 = some m.cls := findClass_of_methodNamed Bd.named
  have hlocks := Bd.notSynchronized
  obtain ⟨Q, hQ⟩ : ∃ Q, Q = MQ below (va_Qi (S := jT) (fun r u => (True)) (fun u t => jRa (dC, dI) B base G0 u EX5_propose H0 (8) (160) [] t.heap ∧ (jNk [0, 1, 2, 3, 4, 6, 7, 8, 9, 10, 11, 12, 13, 14, 15, 16, 17, 175]) G0 u ∧ jIs (dC, dI) u t.heap [(jFs11, jSef dC dI u)]) (jA base)) ([.ref r0, .ref r1] : List Value).toArray s (LC - H0.size) (LS - jTot H0) (jA base) := ⟨_, rfl⟩
  rw [← hQ]
  have hl := lv_entry ([.ref r0, .ref r1]) (n := 5) (Nat.le_of_ble_eq_true rfl)
  rw [lg_entry_eq]
  generalize (lg_sl ([.ref r0, .ref r1]) ++ List.replicate (5 - (lg_sl ([.ref r0, .ref r1])).length) Slot.unset).toArray = ls at hl ⊢
  have hl : lv_has ls 5 [(0, .ref r0), (1, .ref r1)] := hl
  generalize hR : (headSpec (jw yX5_propose cX5_propose 5 (some .int)) ({ frames := 4, cells := LC - H0.size, slots := LS - jTot H0, locals := 127 })).room = R
  subst hH0
  have hh : jSt (dC, dI) B base G0 G0 EX5_propose s.heap 0 0 [] [] [(jFs11, jSef dC dI G0)] s.heap [] := jSt.start hX hP0 jMc.nil hI0
  clear hX hP0
  have hk0 : (0 : Int32).toInt = 0 := by decide
  have hk1 : (1 : Int32).toInt = 1 := by decide
  have hk5 : (5 : Int32).toInt = 5 := by decide
  have hk6 : (6 : Int32).toInt = 6 := by decide
  have hk9 : (9 : Int32).toInt = 9 := by decide
  have hk16 : (16 : Int32).toInt = 16 := by decide
  have hk80 : (80 : Int32).toInt = 80 := by decide
  have hly_7_1 := htw (u_lay RX5 TX5 1) (jWc_wsX50 _ (u_in_lay (by decide)))
  have hly_11_5 := htw (u_lay RX9 TX9 5) (jWc_wsX90 _ (u_in_lay (by decide)))
  have hly_11_6 := htw (u_lay RX9 TX9 6) (jWc_wsX90 _ (u_in_lay (by decide)))
  have hly_11_7 := htw (u_lay RX9 TX9 7) (jWc_wsX90 _ (u_in_lay (by decide)))
  have hly_11_8 := htw (u_lay RX9 TX9 8) (jWc_wsX90 _ (u_in_lay (by decide)))
  have hly_12_5 := htw (u_lay RX10 TX10 5) (jWc_wsX100 _ (u_in_lay (by decide)))
  have hly_12_6 := htw (u_lay RX10 TX10 6) (jWc_wsX100 _ (u_in_lay (by decide)))
  have hly_12_9 := htw (u_lay RX10 TX10 9) (jWc_wsX100 _ (u_in_lay (by decide)))
  have hly_12_10 := htw (u_lay RX10 TX10 10) (jWc_wsX100 _ (u_in_lay (by decide)))
  have hlk_23 := (htw (.fieldLink RX5 23 "ProofServer$Kernel" "syntax" "LProofServer$Syntax;") (jWr_4 _ (List.mem_of_getElem? (i := 15) rfl)))
  have hlk_93 := (htw (.fieldLink RX5 93 "ProofServer$Syntax" "told" "[I") (jWr_81 _ (List.mem_of_getElem? (i := 8) rfl)))
  have hlk_74 := (htw (.fieldLink RX5 74 "ProofServer$Syntax" "word" "I") (jWr_78 _ (List.mem_of_getElem? (i := 19) rfl)))
  have hlk_114 := (htw (.fieldLink RX5 114 "ProofServer$Syntax" "nodeCount" "I") (jWr_82 _ (List.mem_of_getElem? (i := 5) rfl)))
  have hlk_117 := (htw (.fieldLink RX5 117 "ProofServer$State" "facts" "[[I") (jWr_82 _ (List.mem_of_getElem? (i := 6) rfl)))
  have hlk_121 := (htw (.fieldLink RX5 121 "ProofServer$Syntax" "nodes" "[I") (jWr_82 _ (List.mem_of_getElem? (i := 7) rfl)))
  have hlk_77 := (htw (.fieldLink RX5 77 "ProofServer$State" "lemma" "I") (jWr_78 _ (List.mem_of_getElem? (i := 20) rfl)))
  have hlk_133 := (htw (.fieldLink RX5 133 "ProofServer$State" "statement" "[I") (jWr_82 _ (List.mem_of_getElem? (i := 8) rfl)))
  have hlk_140 := (htw (.fieldLink RX5 140 "ProofServer$State" "goals" "[LProofServer$Goal;") (jWr_82 _ (List.mem_of_getElem? (i := 12) rfl)))
  have hbs : base ≤ s.heap.size := Nat.le_of_lt (Nat.lt_of_le_of_lt (hh.ab hg_r0).1 (hh.ab hg_r0).2)
  have hRc : R.cells = LC - s.heap.size := by rw [← hR]; rfl
  have hRs : R.slots = LS - jTot s.heap := by rw [← hR]; rfl
  refine lv_aload_n hx hb dX5_propose_0 rfl (lv_at hl 0 rfl) ?_
  obtain ⟨v_1, hv_1, hh_2⟩ := hh.pin (C := RX5) (T := TX5) (N := 11) hB7 rfl (by decide) hg_r0 (i := 1) (by decide) rfl
  clear hh
  obtain ⟨syntax_3, rfl, hg_syntax_3⟩ := hv_1
  refine j7_read hx hb hown hK (C := RX5) (T := TX5) (N := 11) rfl hly_7_1 hlk_23 (hh_2.at 0 rfl) dX5_propose_1 ?_
  obtain ⟨v_4, hv_4, hh_5⟩ := hh_2.pin (C := RX10) (T := TX10) (N := 11) hB12 rfl (by decide) hg_syntax_3 (i := 6) (by decide) rfl
  clear hh_2
  obtain ⟨told_6, rfl, hg_told_6⟩ := hv_4
  refine j7_read hx hb hown hK (C := RX10) (T := TX10) (N := 11) rfl hly_12_6 hlk_93 (hh_5.at 0 rfl) dX5_propose_4 ?_
  refine lv_iconst (v := 0) hx hb dX5_propose_7 (by decide) ?_
  refine j7_iald hx hb hK hh_5 hB292 1 rfl (by decide) hg_told_6 (x := 0) ((by decide)) (by omega) dX5_propose_8 (fun z_7 (hz_7 : 0 ≤ z_7.toInt ∧ z_7.toInt ≤ 8191) => ?_)
  refine lv_istore_n (lv' := [(2, .int z_7), (0, .ref r0), (1, .ref r1)]) hx hb dX5_propose_9 rfl hl (by decide) rfl (fun ls hl => ?_)
  refine lv_aload_n hx hb dX5_propose_10 rfl (lv_at hl 2 rfl) ?_
  refine lv_null hx hb dX5_propose_11 ?_
  refine lv_iload_n hx hb dX5_propose_12 rfl (lv_at hl 0 rfl) ?_
  have hsz_8 := hh_5.2.2.2.2.2.1
  have htt_8 := hh_5.2.2.2.2.2.2.1
  refine W.room (fun hrc_8 hrs_8 => ?_)
  refine va_calli (A0 := jA base) (H0 := s.heap) (va_runS (As := [.ref r1, .null, .int z_7]) (rest := []) ⟨hx, hb, hml, hown, hts⟩ (uX5_isTakenZ l dC dI ca base B hB hAp hB5 hB11 hB101 G0 s.heap r1 z_7) (va_cwS 3 hts (jgS (jWr_81 _ (List.mem_of_getElem? (i := 11) rfl)) (jWr_81 _ (List.mem_of_getElem? (i := 12) rfl)) (jWr_2 _ (List.mem_of_getElem? (i := 4) rfl)) (jWr_81 _ (List.mem_of_getElem? (i := 13) rfl))) rfl rfl rfl (by decide +kernel) ⟨by rw [← hR]; exact Nat.le_of_ble_eq_true rfl, by rw [← hR]; exact Nat.le_of_ble_eq_true rfl⟩) ⟨fun a U g mk q => by obtain ⟨q0, q1, q2, qK, q10, q11, q12⟩ := q; exact ⟨q0, q1, q2, jG.calling g mk a qK, q10, q11, q12⟩, fun U hU hW => ⟨rfl, hU, hh_5.2.1, hG.step hW hU hh_5.1, hg_r1, jP.nil, trivial⟩⟩ rfl rfl hl.1 rfl (lv_room (Nat.le_of_ble_eq_true rfl)) dX5_propose_13 ⟨by rw [hRc]; show _ + 0 ≤ _; omega, by rw [hRs]; show _ + 0 ≤ _; omega⟩) hh_5.1 (fun q _ h => h) (fun q h => h) (fun r_9 u_8 t_8 H_8 locs_8 ht_8 hvm_8 hr_9 hb_8 hz_8 hk_8 hS_8 => ?_)
  rw [ht_8] at hb_8
  obtain ⟨hb_81, hb_82, hb_83, hb_84, hb_85⟩ := hb_8
  have hh_8 : jSt (dC, dI) B base G0 G0 EX5_propose s.heap 0 0 [(syntax_3, 12, 6, .ref told_6), (r0, 7, 1, .ref syntax_3)] [] [(jFs11, jSef dC dI G0)] H_8 locs_8 := ((hh_5.call hb_81 hb_82 hb_83 hb_84 hS_8 rfl (L1 := [(syntax_3, 12, 6, .ref told_6), (r0, 7, 1, .ref syntax_3)]) [0, 1] rfl rfl (M1 := []) [] rfl rfl (I1 := [(jFs11, jSef dC dI G0)]) [0] rfl rfl).more hb_85)
  clear hh_5 ht_8 hvm_8 hz_8 hk_8 hS_8 hb_81 hb_82 hb_83 hb_84 hb_85
  obtain ⟨hr_9b, hr_9p⟩ := hr_9
  have hr_9' := jb_01 hr_9b
  refine lv_if_eq (tgt := 22) hx hb dX5_propose_16 (by decide) (fun c_10 => ?_) (fun c_10 => ?_)
  · skip
    have c_10' : r_9.toInt = 0 := jb_eq (rfl) ((by decide)) c_10
    refine lv_aload_n hx hb dX5_propose_22 rfl (lv_at hl 1 rfl) ?_
    refine lv_aload_n hx hb dX5_propose_23 rfl (lv_at hl 2 rfl) ?_
    refine lv_null hx hb dX5_propose_24 ?_
    have hsz_11 := hh_8.2.2.2.2.2.1
    have htt_11 := hh_8.2.2.2.2.2.2.1
    refine W.room (fun hrc_11 hrs_11 => ?_)
    refine va_calli (A0 := jA base) (H0 := s.heap) (va_runV (As := [.ref r1, .null]) (rest := []) ⟨hx, hb, hml, hown, hts⟩ (uX5_isResolvedZ l dC dI ca base B hB hAp hB5 hB7 hB11 hB12 hB101 hB280 G0 H_8 r0 r1) (cwV 2 hts (jgV (jWr_82 _ (List.mem_of_getElem? (i := 13) rfl)) (jWr_82 _ (List.mem_of_getElem? (i := 14) rfl)) (jWr_82 _ (List.mem_of_getElem? (i := 15) rfl)) (jWr_2 _ (List.mem_of_getElem? (i := 4) rfl)) (jWr_82 _ (List.mem_of_getElem? (i := 16) rfl))) rfl rfl rfl (by decide +kernel) ⟨by rw [← hR]; exact Nat.le_of_ble_eq_true rfl, by rw [← hR]; exact Nat.le_of_ble_eq_true rfl⟩) ⟨fun a U g mk q => by obtain ⟨q0, q1, q2, qK, q10, q11, q12, q13⟩ := q; exact ⟨q0, q1, q2, jG.calling g mk a qK, q10, q11, q12, q13⟩, hh_8.recv (C := RX5) (T := TX5) (N := 11) hB7 rfl (by decide) hg_r0 hK, fun U hU hW => ⟨rfl, hU, hh_8.2.1, hG.step hW hU hh_8.1, hg_r0, hg_r1, jP.nil, trivial⟩⟩ rfl rfl hl.1 rfl (lv_room (Nat.le_of_ble_eq_true rfl)) dX5_propose_25 ⟨by rw [hRc]; show _ + 0 ≤ _; omega, by rw [hRs]; show _ + 0 ≤ _; omega⟩) hh_8.1 (fun q _ h => h) (fun q h => h) (fun r_12 u_11 t_11 H_11 locs_11 ht_11 hvm_11 hr_12 hb_11 hz_11 hk_11 hS_11 => ?_)
    rw [ht_11] at hb_11
    obtain ⟨hb_111, hb_112, hb_113, hb_114, hb_115⟩ := hb_11
    have hh_11 : jSt (dC, dI) B base G0 G0 EX5_propose s.heap 0 0 [(syntax_3, 12, 6, .ref told_6), (r0, 7, 1, .ref syntax_3)] [] [(jFs11, jSef dC dI G0)] H_11 locs_11 := ((hh_8.call hb_111 hb_112 hb_113 hb_114 hS_11 rfl (L1 := [(syntax_3, 12, 6, .ref told_6), (r0, 7, 1, .ref syntax_3)]) [0, 1] rfl rfl (M1 := []) [] rfl rfl (I1 := [(jFs11, jSef dC dI G0)]) [0] rfl rfl).more hb_115)
    clear hh_8 ht_11 hvm_11 hz_11 hk_11 hS_11 hb_111 hb_112 hb_113 hb_114 hb_115
    obtain ⟨hr_12b, hr_12p⟩ := hr_12
    have hr_12' := jb_01 hr_12b
    refine lv_if_ne (tgt := 33) hx hb dX5_propose_28 (by decide) (fun c_13 => ?_) (fun c_13 => ?_)
    · skip
      have c_13' : r_12.toInt ≠ 0 := jb_ne (rfl) ((by decide)) c_13
      refine lv_aload_n hx hb dX5_propose_33 rfl (lv_at hl 1 rfl) ?_
      refine j7_read hx hb hown hK (C := RX5) (T := TX5) (N := 11) rfl hly_7_1 hlk_23 (hh_11.at 1 rfl) dX5_propose_34 ?_
      obtain ⟨v_14, hv_14, hh_15⟩ := hh_11.pin (C := RX10) (T := TX10) (N := 11) hB12 rfl (by decide) hg_syntax_3 (i := 5) (by decide) rfl
      clear hh_11
      obtain ⟨word_16, rfl⟩ := hv_14
      refine j7_read hx hb hown hK (C := RX10) (T := TX10) (N := 11) rfl hly_12_5 hlk_74 (hh_15.at 0 rfl) dX5_propose_37 ?_
      refine lv_iconst (v := 5) hx hb dX5_propose_40 (by decide) ?_
      have C49 : ∀ (w0_17 : Int32) (H_17 : Heap) (locs_17 : List Loc), jSt (dC, dI) B base G0 G0 EX5_propose s.heap 0 0 [(syntax_3, 12, 5, .int word_16), (syntax_3, 12, 6, .ref told_6), (r0, 7, 1, .ref syntax_3)] [] [(jFs11, jSef dC dI G0)] H_17 locs_17 → (w0_17 = 0 ∨ w0_17 = 1) → (True) → ∀ ls : Array Slot, lv_has ls 5 [(0, .ref r0), (1, .ref r1), (2, .int z_7)] → W p l e R s m ([.ref r0, .ref r1] : List Value).toArray below meth c H_17 locs_17 0 0 Q (F0 m 49 ls [.int w0_17]) := by
        intro w0_17 H_17 locs_17 hh_17 hb_w0_17 hi_17 ls hl
        have hb_w0_17' := jb_01 hb_w0_17
        refine lv_istore_n (lv' := [(3, .int w0_17), (0, .ref r0), (1, .ref r1), (2, .int z_7)]) hx hb dX5_propose_49 rfl hl (by decide) rfl (fun ls hl => ?_)
        obtain ⟨sx_18, sy_18, sm_18, hs1_18, hs2_18, hg_sx_18, hg_sy_18, hsm_18⟩ := (hh_17.iv 0 rfl) _ hg_r1
        have hh_19 := hh_17.more (P1 := [(r1, 11, 4, .ref sx_18), (r1, 11, 5, .ref sy_18)]) (jP.cons hg_r1 hs1_18 (jP.cons hg_r1 hs2_18 jP.nil))
        clear hh_17 hs1_18 hs2_18
        refine lv_aload_n hx hb dX5_propose_50 rfl (lv_at hl 1 rfl) ?_
        refine j7_read hx hb hown hK (C := RX5) (T := TX5) (N := 11) rfl hly_7_1 hlk_23 (hh_19.at 4 rfl) dX5_propose_51 ?_
        obtain ⟨v_20, hv_20, hh_21⟩ := hh_19.pin (C := RX10) (T := TX10) (N := 11) hB12 rfl (by decide) hg_syntax_3 (i := 10) (by decide) rfl
        clear hh_19
        obtain ⟨nodeCount_22, rfl, hlonodeCount_22, hhinodeCount_22⟩ := hv_20
        refine j7_read hx hb hown hK (C := RX10) (T := TX10) (N := 11) rfl hly_12_10 hlk_114 (hh_21.at 0 rfl) dX5_propose_54 ?_
        refine lv_bipush (v := 80) hx hb dX5_propose_57 (by decide) ?_
        refine lv_icmp_gt (tgt := 76) hx hb dX5_propose_59 (by decide) (fun c_23 => ?_) (fun c_23 => ?_)
        · skip
          have c_23' : nodeCount_22.toInt > 80 := jb_gt (rfl) ((by decide)) c_23
          refine lv_bipush (v := 9) hx hb dX5_propose_76 (by decide) ?_
          have hsz_24 := hh_21.2.2.2.2.2.1
          have htt_24 := hh_21.2.2.2.2.2.2.1
          refine W.room (fun hrc_24 hrs_24 => ?_)
          refine W.widen (k := LC - s.heap.size) (n := LS - jTot s.heap) (by omega) (by omega) ?_
          rw [hQ]
          exact W.iret (v := 9) hx hb hr (fun t ht hW => ⟨⟨9, G0, rfl, trivial, ⟨hh_21.ra (by first | omega | (simp only; omega)) (by first | omega | (simp only; omega)) (M1 := []) [] rfl ht, jNk.rf, by rw [ht]; exact hh_21.2.2.2.2.2.2.2.2.sub (L1 := [(jFs11, jSef dC dI G0)]) [0] rfl⟩⟩, by rw [ht]; try exact hh_21.1.1, fun q h9 hq => by rw [ht]; try exact hh_21.1.2.1 q h9 hq⟩) hh_21.1.2.2 dX5_propose_78
        · skip
          have c_23' : nodeCount_22.toInt ≤ 80 := jb_gt_n (rfl) ((by decide)) c_23
          refine lv_iload_n hx hb dX5_propose_62 rfl (lv_at hl 0 rfl) ?_
          refine lv_if_eq (tgt := 79) hx hb dX5_propose_63 (by decide) (fun c_25 => ?_) (fun c_25 => ?_)
          · skip
            have c_25' : w0_17.toInt = 0 := jb_eq (rfl) ((by decide)) c_25
            refine lv_aload_n hx hb dX5_propose_79 rfl (lv_at hl 1 rfl) ?_
            refine j7_read hx hb hown hK (C := RX5) (T := TX5) (N := 11) rfl hly_7_1 hlk_23 (hh_21.at 5 rfl) dX5_propose_80 ?_
            obtain ⟨v_26, hv_26, hh_27⟩ := hh_21.pin (C := RX10) (T := TX10) (N := 11) hB12 rfl (by decide) hg_syntax_3 (i := 9) (by decide) rfl
            clear hh_21
            obtain ⟨nodes_28, rfl, hg_nodes_28⟩ := hv_26
            refine j7_read hx hb hown hK (C := RX10) (T := TX10) (N := 11) rfl hly_12_9 hlk_121 (hh_27.at 0 rfl) dX5_propose_83 ?_
            refine lv_aload_n hx hb dX5_propose_86 rfl (lv_at hl 1 rfl) ?_
            refine j7_read hx hb hown hK (C := RX5) (T := TX5) (N := 11) rfl hly_7_1 hlk_23 (hh_27.at 6 rfl) dX5_propose_87 ?_
            refine j7_read hx hb hown hK (C := RX10) (T := TX10) (N := 11) rfl hly_12_10 hlk_114 (hh_27.at 1 rfl) dX5_propose_90 ?_
            have hsz_29 := hh_27.2.2.2.2.2.1
            have htt_29 := hh_27.2.2.2.2.2.2.1
            refine W.room (fun hrc_29 hrs_29 => ?_)
            refine j_callx (A0 := jA base) (H0 := s.heap) (va_runS (As := [.ref nodes_28, .int nodeCount_22]) (rest := []) ⟨hx, hb, hml, hown, hts⟩ (uJ7_copyOf_59c91P l dC dI ca base B hB hAp hB280 G0 H_17 nodes_28 nodeCount_22 3000 LC LS) (va_cwS 2 hts (jgS (jWr_82 _ (List.mem_of_getElem? (i := 21) rfl)) (jWr_81 _ (List.mem_of_getElem? (i := 23) rfl)) (jWr_16 _ (List.mem_of_getElem? (i := 7) rfl)) (jWr_82 _ (List.mem_of_getElem? (i := 0) rfl))) rfl rfl rfl (by decide +kernel) ⟨by rw [← hR]; exact Nat.le_of_ble_eq_true rfl, by rw [← hR]; exact Nat.le_of_ble_eq_true rfl⟩) ⟨fun a U g mk q => by obtain ⟨q0, q1, q2, qK, q10, q11, q12⟩ := q; exact ⟨q0, q1, q2, jG.calling g mk a qK, q10, q11, q12⟩, fun U hU hW => ⟨rfl, hU, hh_27.2.1, hG.step hW hU hh_27.1, hg_nodes_28, jP.nil, by first | omega | (refine ⟨?_, ?_, ?_, ?_⟩ <;> (first | omega | rfl | assumption | decide | exact Or.inl rfl | exact Or.inr rfl | (simp only; omega)))⟩⟩ rfl rfl hl.1 rfl (lv_room (Nat.le_of_ble_eq_true rfl)) dX5_propose_93 ⟨by rw [hRc]; omega, by rw [hRs]; omega⟩) hh_27.1 (fun q _ h => h) (fun q h => h) (fun r_30 u_29 t_29 H_29 locs_29 ht_29 hvm_29 hr_30 hb_29 hz_29 hk_29 hS_29 => ?_)
            rw [ht_29] at hb_29
            obtain ⟨m_ret_29, G_29⟩ := u_29
            simp only at hb_29
            obtain ⟨⟨hb_291, hb_292, hb_293, hb_294, hb_295, hb_296⟩, hN_29, hbK_29⟩ := hb_29
            have hN_29 : (jNk [0, 1, 2, 3, 4, 6, 7, 8, 9, 10, 11, 12, 13, 14, 15, 16, 17, 175]) G0 G_29 := hN_29.sub (by decide)
            have hh_29 : jSt (dC, dI) B base G0 G_29 EX5_propose s.heap (0 + (1)) (0 + (m_ret_29)) [(syntax_3, 12, 9, .ref nodes_28), (syntax_3, 12, 10, .int nodeCount_22), (r1, 11, 4, .ref sx_18), (r1, 11, 5, .ref sy_18), (syntax_3, 12, 5, .int word_16), (syntax_3, 12, 6, .ref told_6), (r0, 7, 1, .ref syntax_3)] [] [(jFs11, jSef dC dI G0)] H_29 locs_29 := (hh_27.callG hb_291 hb_292 hb_293 hb_294 hb_295 hS_29 rfl (L1 := [(syntax_3, 12, 9, .ref nodes_28), (syntax_3, 12, 10, .int nodeCount_22), (r1, 11, 4, .ref sx_18), (r1, 11, 5, .ref sy_18), (syntax_3, 12, 5, .int word_16), (syntax_3, 12, 6, .ref told_6), (r0, 7, 1, .ref syntax_3)]) [0, 1, 2, 3, 4, 5, 6] rfl rfl (M1 := []) [] rfl rfl (I1 := [(jFs11, jSef dC dI G0)]) [0] rfl rfl).more hb_296
            have hNn_29 : (jNk [0, 1, 2, 3, 4, 6, 7, 8, 9, 10, 11, 12, 13, 14, 15, 16, 17, 175]) G0 G_29 := (jNk.rf).tr hN_29
            have hg_31 := hb_292 _ _ hg_r0
            have hg_32 := hb_292 _ _ hg_r1
            have hg_33 := hb_292 _ _ hg_nodes_28
            have hg_34 := hb_292 _ _ hg_sx_18
            have hg_35 := hb_292 _ _ hg_sy_18
            have hg_36 := hb_292 _ _ hg_told_6
            have hg_37 := hb_292 _ _ hg_syntax_3
            have hd_38 := jSef.grow (hh_29.iv 0 rfl) hb_292 hN_29 (by decide)
            have hh_39 := hh_29.sub (L1 := [(syntax_3, 12, 9, .ref nodes_28), (syntax_3, 12, 10, .int nodeCount_22), (r1, 11, 4, .ref sx_18), (r1, 11, 5, .ref sy_18), (syntax_3, 12, 5, .int word_16), (syntax_3, 12, 6, .ref told_6), (r0, 7, 1, .ref syntax_3)]) [0, 1, 2, 3, 4, 5, 6] rfl (M1 := []) [] rfl (I1 := []) [] rfl
            clear hh_29
            have hh_40 := hh_39.addI (jSef.ie hd_38)
            clear hh_39
            obtain ⟨hr_30, hr_30n, hr_30p⟩ := hr_30
            try simp only at hr_30p
            obtain ⟨ret_41, rfl, hg_ret_41⟩ := hr_30
            have hsy_29 : s.heap.size ≤ ret_41 := Nat.le_trans hh_27.1.1 hr_30n.le
            refine lv_astore (lv' := [(4, .ref ret_41), (3, .int w0_17), (0, .ref r0), (1, .ref r1), (2, .int z_7)]) hx hb dX5_propose_96 hl (by decide) rfl (fun ls hl => ?_)
            refine lv_iload_n hx hb dX5_propose_98 rfl (lv_at hl 1 rfl) ?_
            refine lv_if_eq (tgt := 112) hx hb dX5_propose_99 (by decide) (fun c_42 => ?_) (fun c_42 => ?_)
            · skip
              have c_42' : w0_17.toInt = 0 := jb_eq (rfl) ((by decide)) c_42
              refine lv_aload_n hx hb dX5_propose_112 rfl (lv_at hl 3 rfl) ?_
              refine lv_iload_n hx hb dX5_propose_113 rfl (lv_at hl 4 rfl) ?_
              refine j7_put hx hb hown hK hh_40 hB hAp hB11 (C := RX9) (T := TX9) (N := 9) rfl (by decide) hg_32 (i := 6) (by decide) hly_11_6 rfl hlk_77 rfl (ty := .int) (v := .int z_7) (by decide +kernel) rfl rfl (⟨_, rfl⟩) rfl (L1 := [(syntax_3, 12, 9, .ref nodes_28), (syntax_3, 12, 10, .int nodeCount_22), (r1, 11, 4, .ref sx_18), (r1, 11, 5, .ref sy_18), (syntax_3, 12, 5, .int word_16), (syntax_3, 12, 6, .ref told_6), (r0, 7, 1, .ref syntax_3)]) [0, 1, 2, 3, 4, 5, 6] rfl rfl rfl dX5_propose_114 (fun H_43 locs_43 hh_43 => ?_)
              clear hh_40
              refine lv_aload_n hx hb dX5_propose_117 rfl (lv_at hl 3 rfl) ?_
              refine lv_aload hx hb dX5_propose_118 (lv_at hl 0 rfl) ?_
              refine j7_put hx hb hown hK hh_43 hB hAp hB11 (C := RX9) (T := TX9) (N := 9) rfl (by decide) hg_32 (i := 7) (by decide) hly_11_7 rfl hlk_133 rfl (ty := (.array .int)) (v := .ref ret_41) (by decide +kernel) rfl rfl (⟨_, _, rfl, hg_ret_41, by omega⟩) rfl (L1 := [(r1, 11, 6, .int z_7), (syntax_3, 12, 9, .ref nodes_28), (syntax_3, 12, 10, .int nodeCount_22), (r1, 11, 4, .ref sx_18), (r1, 11, 5, .ref sy_18), (syntax_3, 12, 5, .int word_16), (syntax_3, 12, 6, .ref told_6), (r0, 7, 1, .ref syntax_3)]) [0, 1, 2, 3, 4, 5, 6, 7] rfl rfl rfl dX5_propose_120 (fun H_44 locs_44 hh_44 => ?_)
              clear hh_43
              refine lv_aload_n hx hb dX5_propose_123 rfl (lv_at hl 3 rfl) ?_
              refine lv_iconst (v := 1) hx hb dX5_propose_124 (by decide) ?_
              have hsz_45 := hh_44.2.2.2.2.2.1
              have htt_45 := hh_44.2.2.2.2.2.2.1
              have hsy_45 : s.heap.size ≤ H_44.size := hh_44.1.1
              refine j7_newqR hx hb hown (htw (.classLink RX5 53 RX3) (jWr_5 _ (List.mem_of_getElem? (i := 2) rfl))) hK6.2.2.2 hK2 hh_44 hB 3 rfl (x := 1) (by decide) (by omega) (by rw [hRc]; omega) (by rw [hRs]; omega) dX5_propose_125 (fun H_45 hfr_45 hnr_45 hraw_45 hh_45 => ?_)
              have hke_45 : jKe G_29 G_29 H_44 H_45 := jKe.raw hfr_45
              have hbr_45 : base ≤ H_44.size := Nat.le_trans hbs hsy_45
              obtain ⟨nq_45, hnq_45⟩ : ∃ q : Nat, q = ((1 : Int)).toNat := ⟨_, rfl⟩
              rw [← hnq_45] at hraw_45 hh_45 ⊢
              clear hh_44
              refine lv_dup hx hb dX5_propose_128 rfl ?_
              refine lv_iconst (v := 0) hx hb dX5_propose_129 (by decide) ?_
              have hsz_46 := hh_45.2.2.2.2.2.1
              have htt_46 := hh_45.2.2.2.2.2.2.1
              refine j7_newo (k := 5) (C := RX3) (T := TX3) (N := 4) (fs := [.null, .null, .null, .null]) hx hb htw jWc_wsX30 (fun k => ([(.array .int), (.array .int), (.array (.array .int)), (.array .int)] : List FieldType).getD k .int) (by decide +kernel) hown (htw (.classLink RX5 53 RX3) (jWr_5 _ (List.mem_of_getElem? (i := 2) rfl))) (htw (.instantiable RX3 4) (jWr_82 _ (List.mem_of_getElem? (i := 9) rfl))) (htw (.initialized RX3) (jWr_82 _ (List.mem_of_getElem? (i := 10) rfl))) hK rfl (fun j hj => by rcases (by omega : j = 0 ∨ j = 1 ∨ j = 2 ∨ j = 3) with rfl | rfl | rfl | rfl <;> rfl) hh_45 hB (by rw [hRc]; omega) (by rw [hRs]; omega) dX5_propose_130 (fun H_46 hraw_46 hfr_46 hnr_46 hh_46 => ?_)
              have hlt_47 := hraw_45.lt
              have hke_46 : jKe G_29 G_29 H_45 H_46 := jKe.raw hfr_46
              have hbr_46 : base ≤ H_45.size := Nat.le_trans hbs hh_45.1.1
              have hsy_46 : s.heap.size ≤ H_45.size := hh_45.1.1
              clear hh_45
              have hraw_48n := hke_46.nr hraw_45.lt hnr_45
              have hraw_48 := hraw_45.kept (hke_46.1 _ hraw_45.lt)
              have hne_49 : H_44.size ≠ H_45.size := Nat.ne_of_lt hlt_47
              refine lv_dup hx hb dX5_propose_133 rfl ?_
              refine lv_iconst (v := 0) hx hb dX5_propose_134 (by decide) ?_
              have hsz_50 := hh_46.2.2.2.2.2.1
              have htt_50 := hh_46.2.2.2.2.2.2.1
              refine j7_newiK hx hb hK hh_46 hB (atype := .int) (ty := .int) (htw (.arrayClass .int) (jWr_3 _ (List.mem_of_getElem? (i := 20) rfl))) rfl rfl (fun _ h => h) hB101 1 rfl (by decide) (by decide) hbs (x := 0) (by decide) (by omega) (fun j => by first | trivial | decide | rfl | exact Or.inl rfl | (refine ⟨?_, ?_⟩ <;> decide)) (by rw [hRc]; omega) (by rw [hRs]; omega) dX5_propose_135 (fun H_50 hfr_50 hh_50 => ?_)
              have hh_50 : jSt (dC, dI) B base G0 (va_up G_29 H_46.size (some (101, 0))) EX5_propose s.heap ((((0 + (1)) + 1) + 1) + 1) ((((0 + (m_ret_29)) + nq_45) + 4) + 0) [(r1, 11, 7, .ref ret_41), (r1, 11, 6, .int z_7), (syntax_3, 12, 9, .ref nodes_28), (syntax_3, 12, 10, .int nodeCount_22), (r1, 11, 4, .ref sx_18), (r1, 11, 5, .ref sy_18), (syntax_3, 12, 5, .int word_16), (syntax_3, 12, 6, .ref told_6), (r0, 7, 1, .ref syntax_3)] [] [(jFs11, jSef dC dI G_29)] H_50 locs_44 := hh_50
              have hN_50 : (jNk [0, 1, 2, 3, 4, 6, 7, 8, 9, 10, 11, 12, 13, 14, 15, 16, 17, 175]) G_29 (va_up G_29 H_46.size (some (101, 0))) := jNk.new (by decide)
              have hgn_50 : (va_up G_29 H_46.size (some (101, 0))) H_46.size = some (101, 0) := jUp_self
              have hle_50 : jLe G_29 (va_up G_29 H_46.size (some (101, 0))) := jLe.new hh_46.2.1.fresh
              have hke_50 : jKe G_29 (va_up G_29 H_46.size (some (101, 0))) H_46 H_50 := jKe.new hfr_50
              have hsy_50 : s.heap.size ≤ H_46.size := hh_46.1.1
              generalize (va_up G_29 H_46.size (some (101, 0))) = G_50 at hN_50 hgn_50 hle_50 hke_50 hh_50
              clear hh_46
              have hNn_50 : (jNk [0, 1, 2, 3, 4, 6, 7, 8, 9, 10, 11, 12, 13, 14, 15, 16, 17, 175]) G0 G_50 := (hNn_29).tr hN_50
              have hg_51 := hle_50 _ _ hg_ret_41
              have hg_52 := hle_50 _ _ hg_31
              have hg_53 := hle_50 _ _ hg_32
              have hg_54 := hle_50 _ _ hg_33
              have hg_55 := hle_50 _ _ hg_34
              have hg_56 := hle_50 _ _ hg_35
              have hg_57 := hle_50 _ _ hg_36
              have hg_58 := hle_50 _ _ hg_37
              have hraw_59n := hke_50.nr hraw_46.lt hnr_46
              have hraw_59 := hraw_46.kept (hke_50.1 _ hraw_46.lt)
              have hraw_60n := hke_50.nr hraw_48.lt hraw_48n
              have hraw_60 := hraw_48.kept (hke_50.1 _ hraw_48.lt)
              have hd_61 := jSef.grow (hh_50.iv 0 rfl) hle_50 hN_50 (by decide)
              have hh_62 := hh_50.sub (L1 := [(r1, 11, 7, .ref ret_41), (r1, 11, 6, .int z_7), (syntax_3, 12, 9, .ref nodes_28), (syntax_3, 12, 10, .int nodeCount_22), (r1, 11, 4, .ref sx_18), (r1, 11, 5, .ref sy_18), (syntax_3, 12, 5, .int word_16), (syntax_3, 12, 6, .ref told_6), (r0, 7, 1, .ref syntax_3)]) [0, 1, 2, 3, 4, 5, 6, 7, 8] rfl (M1 := []) [] rfl (I1 := []) [] rfl
              clear hh_50
              have hh_63 := hh_62.addI (jSef.ie hd_61)
              clear hh_62
              refine lv_iconst (v := 0) hx hb dX5_propose_137 (by decide) ?_
              have hsz_64 := hh_63.2.2.2.2.2.1
              have htt_64 := hh_63.2.2.2.2.2.2.1
              refine j7_newiK hx hb hK hh_63 hB (atype := .int) (ty := .int) (htw (.arrayClass .int) (jWr_3 _ (List.mem_of_getElem? (i := 20) rfl))) rfl rfl (fun _ h => h) hB101 1 rfl (by decide) (by decide) hbs (x := 0) (by decide) (by omega) (fun j => by first | trivial | decide | rfl | exact Or.inl rfl | (refine ⟨?_, ?_⟩ <;> decide)) (by rw [hRc]; omega) (by rw [hRs]; omega) dX5_propose_138 (fun H_64 hfr_64 hh_64 => ?_)
              have hh_64 : jSt (dC, dI) B base G0 (va_up G_50 H_50.size (some (101, 0))) EX5_propose s.heap (((((0 + (1)) + 1) + 1) + 1) + 1) (((((0 + (m_ret_29)) + nq_45) + 4) + 0) + 0) [(r1, 11, 7, .ref ret_41), (r1, 11, 6, .int z_7), (syntax_3, 12, 9, .ref nodes_28), (syntax_3, 12, 10, .int nodeCount_22), (r1, 11, 4, .ref sx_18), (r1, 11, 5, .ref sy_18), (syntax_3, 12, 5, .int word_16), (syntax_3, 12, 6, .ref told_6), (r0, 7, 1, .ref syntax_3)] [] [(jFs11, jSef dC dI G_50)] H_64 locs_44 := hh_64
              have hN_64 : (jNk [0, 1, 2, 3, 4, 6, 7, 8, 9, 10, 11, 12, 13, 14, 15, 16, 17, 175]) G_50 (va_up G_50 H_50.size (some (101, 0))) := jNk.new (by decide)
              have hgn_64 : (va_up G_50 H_50.size (some (101, 0))) H_50.size = some (101, 0) := jUp_self
              have hle_64 : jLe G_50 (va_up G_50 H_50.size (some (101, 0))) := jLe.new hh_63.2.1.fresh
              have hke_64 : jKe G_50 (va_up G_50 H_50.size (some (101, 0))) H_50 H_64 := jKe.new hfr_64
              have hsy_64 : s.heap.size ≤ H_50.size := hh_63.1.1
              generalize (va_up G_50 H_50.size (some (101, 0))) = G_64 at hN_64 hgn_64 hle_64 hke_64 hh_64
              clear hh_63
              have hNn_64 : (jNk [0, 1, 2, 3, 4, 6, 7, 8, 9, 10, 11, 12, 13, 14, 15, 16, 17, 175]) G0 G_64 := (hNn_50).tr hN_64
              have hg_65 := hle_64 _ _ hg_51
              have hg_66 := hle_64 _ _ hg_52
              have hg_67 := hle_64 _ _ hg_53
              have hg_68 := hle_64 _ _ hgn_50
              have hg_69 := hle_64 _ _ hg_54
              have hg_70 := hle_64 _ _ hg_55
              have hg_71 := hle_64 _ _ hg_56
              have hg_72 := hle_64 _ _ hg_57
              have hg_73 := hle_64 _ _ hg_58
              have hraw_74n := hke_64.nr hraw_59.lt hraw_59n
              have hraw_74 := hraw_59.kept (hke_64.1 _ hraw_59.lt)
              have hraw_75n := hke_64.nr hraw_60.lt hraw_60n
              have hraw_75 := hraw_60.kept (hke_64.1 _ hraw_60.lt)
              have hd_76 := jSef.grow (hh_64.iv 0 rfl) hle_64 hN_64 (by decide)
              have hh_77 := hh_64.sub (L1 := [(r1, 11, 7, .ref ret_41), (r1, 11, 6, .int z_7), (syntax_3, 12, 9, .ref nodes_28), (syntax_3, 12, 10, .int nodeCount_22), (r1, 11, 4, .ref sx_18), (r1, 11, 5, .ref sy_18), (syntax_3, 12, 5, .int word_16), (syntax_3, 12, 6, .ref told_6), (r0, 7, 1, .ref syntax_3)]) [0, 1, 2, 3, 4, 5, 6, 7, 8] rfl (M1 := []) [] rfl (I1 := []) [] rfl
              clear hh_64
              have hh_78 := hh_77.addI (jSef.ie hd_76)
              clear hh_77
              refine lv_iconst (v := 0) hx hb dX5_propose_140 (by decide) ?_
              have hsz_79 := hh_78.2.2.2.2.2.1
              have htt_79 := hh_78.2.2.2.2.2.2.1
              have hsy_79 : s.heap.size ≤ H_64.size := hh_78.1.1
              refine j7_newa0 hx hb hown (show (Cond.classLink RX5 136 (FieldType.array .int).toString).before _ s = true from htw (.classLink RX5 136 "[I") (jWr_82 _ (List.mem_of_getElem? (i := 11) rfl))) hK5 hh_78 hB hB313 (by decide) hbs (by decide) (by rw [hRc]; omega) (by rw [hRs]; omega) dX5_propose_141 (fun H_79 hfr_79 hh_79 => ?_)
              have hh_79 : jSt (dC, dI) B base G0 (va_up G_64 H_64.size (some (313, 0))) EX5_propose s.heap ((((((0 + (1)) + 1) + 1) + 1) + 1) + 1) ((((((0 + (m_ret_29)) + nq_45) + 4) + 0) + 0) + 0) [(r1, 11, 7, .ref ret_41), (r1, 11, 6, .int z_7), (syntax_3, 12, 9, .ref nodes_28), (syntax_3, 12, 10, .int nodeCount_22), (r1, 11, 4, .ref sx_18), (r1, 11, 5, .ref sy_18), (syntax_3, 12, 5, .int word_16), (syntax_3, 12, 6, .ref told_6), (r0, 7, 1, .ref syntax_3)] [] [(jFs11, jSef dC dI G_64)] H_79 locs_44 := hh_79
              have hN_79 : (jNk [0, 1, 2, 3, 4, 6, 7, 8, 9, 10, 11, 12, 13, 14, 15, 16, 17, 175]) G_64 (va_up G_64 H_64.size (some (313, 0))) := jNk.new (by decide)
              have hgn_79 : (va_up G_64 H_64.size (some (313, 0))) H_64.size = some (313, 0) := jUp_self
              have hle_79 : jLe G_64 (va_up G_64 H_64.size (some (313, 0))) := jLe.new hh_78.2.1.fresh
              have hke_79 : jKe G_64 (va_up G_64 H_64.size (some (313, 0))) H_64 H_79 := jKe.new hfr_79
              have hsy_79 : s.heap.size ≤ H_64.size := hh_78.1.1
              generalize (va_up G_64 H_64.size (some (313, 0))) = G_79 at hN_79 hgn_79 hle_79 hke_79 hh_79
              clear hh_78
              have hNn_79 : (jNk [0, 1, 2, 3, 4, 6, 7, 8, 9, 10, 11, 12, 13, 14, 15, 16, 17, 175]) G0 G_79 := (hNn_64).tr hN_79
              have hg_80 := hle_79 _ _ hg_65
              have hg_81 := hle_79 _ _ hg_66
              have hg_82 := hle_79 _ _ hg_67
              have hg_83 := hle_79 _ _ hgn_64
              have hg_84 := hle_79 _ _ hg_68
              have hg_85 := hle_79 _ _ hg_69
              have hg_86 := hle_79 _ _ hg_70
              have hg_87 := hle_79 _ _ hg_71
              have hg_88 := hle_79 _ _ hg_72
              have hg_89 := hle_79 _ _ hg_73
              have hraw_90n := hke_79.nr hraw_74.lt hraw_74n
              have hraw_90 := hraw_74.kept (hke_79.1 _ hraw_74.lt)
              have hraw_91n := hke_79.nr hraw_75.lt hraw_75n
              have hraw_91 := hraw_75.kept (hke_79.1 _ hraw_75.lt)
              have hd_92 := jSef.grow (hh_79.iv 0 rfl) hle_79 hN_79 (by decide)
              have hh_93 := hh_79.sub (L1 := [(r1, 11, 7, .ref ret_41), (r1, 11, 6, .int z_7), (syntax_3, 12, 9, .ref nodes_28), (syntax_3, 12, 10, .int nodeCount_22), (r1, 11, 4, .ref sx_18), (r1, 11, 5, .ref sy_18), (syntax_3, 12, 5, .int word_16), (syntax_3, 12, 6, .ref told_6), (r0, 7, 1, .ref syntax_3)]) [0, 1, 2, 3, 4, 5, 6, 7, 8] rfl (M1 := []) [] rfl (I1 := []) [] rfl
              clear hh_79
              have hh_94 := hh_93.addI (jSef.ie hd_92)
              clear hh_93
              refine lv_aload hx hb dX5_propose_144 (lv_at hl 0 rfl) ?_
              have hsz_95 := hh_94.2.2.2.2.2.1
              have htt_95 := hh_94.2.2.2.2.2.2.1
              refine W.room (fun hrc_95 hrs_95 => ?_)
              refine va_callv (A0 := jA base) (H0 := s.heap) (va_runI (As := [.ref H_46.size, .ref H_50.size, .ref H_64.size, .ref ret_41]) (rest := [.ref H_45.size, .int 0, .ref H_44.size, .ref H_44.size, .ref r1]) ⟨hx, hb, hml, hown, hts⟩ (uX3_init l dC dI ca base B hB hAp hB5 hB101 hB280 hB313 G_79 H_79 H_45.size H_46.size H_50.size H_64.size ret_41 0 0 0 m_ret_29 1 LC LS) (cwI 4 hts (jgW (jWr_83 _ (List.mem_of_getElem? (i := 8) rfl))) rfl rfl rfl (htw (.initialized RX3) (jWr_82 _ (List.mem_of_getElem? (i := 10) rfl))) (htw (.methodLink RX5 137 yX3_init) (jWr_83 _ (List.mem_of_getElem? (i := 6) rfl))) (htw (.instanceMethod yX3_init) (jWr_83 _ (List.mem_of_getElem? (i := 7) rfl))) rfl (by decide +kernel) ⟨by rw [← hR]; exact Nat.le_of_ble_eq_true rfl, by rw [← hR]; exact Nat.le_of_ble_eq_true rfl⟩) ⟨fun a U g mk q => by obtain ⟨q0, q1, q2, qK, q10, q11, q12, q13, q14, q15, q16, q17, q18⟩ := q; exact ⟨q0, q1, q2, jG.calling g mk a qK, q10, q11, q12, q13, q14, q15, q16, q17, q18⟩, fun U hU hW => ⟨rfl, hU, hh_94.2.1, hG.step hW hU hh_94.1, hg_84, hg_83, hgn_79, hg_80, hraw_90, hraw_90n, hbr_46, jP.nil, (by omega), (by omega), by first | omega | (refine ⟨?_, ?_, ?_, ?_, ?_, ?_⟩ <;> (first | omega | rfl | assumption | decide | exact Or.inl rfl | exact Or.inr rfl | (simp only; omega)))⟩⟩ rfl rfl hl.1 rfl (lv_room (Nat.le_of_ble_eq_true rfl)) dX5_propose_146 ⟨by rw [hRc]; omega, by rw [hRs]; omega⟩) hh_94.1 (fun q _ h => h) (fun q h => h) (fun u_95 t_95 H_95 locs_95 ht_95 hvm_95 hr_96 hb_95 hz_95 hk_95 hS_95 => ?_)
              rw [ht_95] at hb_95
              obtain ⟨G_95, rfl⟩ : ∃ z, z = u_95 := ⟨_, rfl⟩
              try simp only at hb_95
              obtain ⟨⟨hb_951, hb_952, hb_953, hb_954, hb_955, hb_956⟩, hN_95, hgc_95, hbX_95⟩ := hb_95
              have hh_95 : jSt (dC, dI) B base G0 G_95 EX5_propose s.heap (((((((0 + (1)) + 1) + 1) + 1) + 1) + 1) + (0)) (((((((0 + (m_ret_29)) + nq_45) + 4) + 0) + 0) + 0) + (0)) [(r1, 11, 7, .ref ret_41), (r1, 11, 6, .int z_7), (syntax_3, 12, 9, .ref nodes_28), (syntax_3, 12, 10, .int nodeCount_22), (r1, 11, 4, .ref sx_18), (r1, 11, 5, .ref sy_18), (syntax_3, 12, 5, .int word_16), (syntax_3, 12, 6, .ref told_6), (r0, 7, 1, .ref syntax_3)] [] [(jFs11, jSef dC dI G_79)] H_95 locs_95 := (hh_94.callG hb_951 hb_952 hb_953 hb_954 hb_955 hS_95 rfl (L1 := [(r1, 11, 7, .ref ret_41), (r1, 11, 6, .int z_7), (syntax_3, 12, 9, .ref nodes_28), (syntax_3, 12, 10, .int nodeCount_22), (r1, 11, 4, .ref sx_18), (r1, 11, 5, .ref sy_18), (syntax_3, 12, 5, .int word_16), (syntax_3, 12, 6, .ref told_6), (r0, 7, 1, .ref syntax_3)]) [0, 1, 2, 3, 4, 5, 6, 7, 8] rfl rfl (M1 := []) [] rfl rfl (I1 := [(jFs11, jSef dC dI G_79)]) [0] rfl rfl).more hb_956
              have hNn_95 : (jNk [0, 1, 2, 3, 4, 6, 7, 8, 9, 10, 11, 12, 13, 14, 15, 16, 17, 175]) G0 G_95 := (hNn_79).tr hN_95
              have hg_97 := hb_952 _ _ hg_80
              have hg_98 := hb_952 _ _ hg_81
              have hg_99 := hb_952 _ _ hg_82
              have hg_100 := hb_952 _ _ hg_85
              have hg_101 := hb_952 _ _ hg_86
              have hg_102 := hb_952 _ _ hg_87
              have hg_103 := hb_952 _ _ hg_88
              have hg_104 := hb_952 _ _ hg_89
              have hd_105 := jSef.grow (hh_95.iv 0 rfl) hb_952 hN_95 (by decide)
              have hh_106 := hh_95.sub (L1 := [(r1, 11, 7, .ref ret_41), (r1, 11, 6, .int z_7), (syntax_3, 12, 9, .ref nodes_28), (syntax_3, 12, 10, .int nodeCount_22), (r1, 11, 4, .ref sx_18), (r1, 11, 5, .ref sy_18), (syntax_3, 12, 5, .int word_16), (syntax_3, 12, 6, .ref told_6), (r0, 7, 1, .ref syntax_3)]) [0, 1, 2, 3, 4, 5, 6, 7, 8] rfl (M1 := []) [] rfl (I1 := []) [] rfl
              clear hh_95
              have hh_107 := hh_106.addI (jSef.ie hd_105)
              clear hh_106
              try simp only at hr_96
              have hraw_108x := hbX_95.ke hraw_91.lt hne_49 hraw_91n
              have hraw_108 := hraw_91.kept hraw_108x.1
              refine j7_qastR hx hb hK2 hh_107 hB hraw_108 hraw_108x.2 hbr_45 3 rfl (x := 0) ((by decide)) (by omega) hB5 (T := TX3) (N := 4) rfl (by decide) hgc_95 dX5_propose_149 (fun H_109 locs_109 hraw_109 hr_109 hh_109 => ?_)
              clear hr_109
              clear hh_107
              have hle_110 : jLe G_95 (va_up G_95 H_44.size (some (214, nq_45))) := jLe.typ hraw_108x.2
              have hh_110 := hh_109.typ (k := 214) (n := nq_45) hB hraw_108x.2 hbr_45 hraw_109.lt (jAq.of hB214 hraw_109 ((jGq.put (G := _) (i := 0) (i1 := 1) (x := 0) (jGq.zero (by omega)) (by omega) rfl (by omega) (by assumption) (by decide)).all (by omega) hle_110))
              have hgn_110 : (va_up G_95 H_44.size (some (214, nq_45))) H_44.size = some (214, nq_45) := jUp_self
              have hN_110 : (jNk [0, 1, 2, 3, 4, 6, 7, 8, 9, 10, 11, 12, 13, 14, 15, 16, 17, 175]) G_95 (va_up G_95 H_44.size (some (214, nq_45))) := jNk.new (by decide)
              have hNn_110 : (jNk [0, 1, 2, 3, 4, 6, 7, 8, 9, 10, 11, 12, 13, 14, 15, 16, 17, 175]) G0 (va_up G_95 H_44.size (some (214, nq_45))) := (hNn_95).tr hN_110
              generalize (va_up G_95 H_44.size (some (214, nq_45))) = G_110 at hN_110 hNn_110 hgn_110 hle_110 hh_110
              have hg_111 := hle_110 _ _ hg_97
              have hg_112 := hle_110 _ _ hg_98
              have hg_113 := hle_110 _ _ hg_99
              have hg_114 := hle_110 _ _ hg_100
              have hg_115 := hle_110 _ _ hg_101
              have hg_116 := hle_110 _ _ hg_102
              have hg_117 := hle_110 _ _ hg_103
              have hg_118 := hle_110 _ _ hg_104
              have hd_119 := jSef.grow (hh_110.iv 0 rfl) hle_110 hN_110 (by decide)
              have hh_120 := hh_110.sub (L1 := [(r1, 11, 7, .ref ret_41), (r1, 11, 6, .int z_7), (syntax_3, 12, 9, .ref nodes_28), (syntax_3, 12, 10, .int nodeCount_22), (r1, 11, 4, .ref sx_18), (r1, 11, 5, .ref sy_18), (syntax_3, 12, 5, .int word_16), (syntax_3, 12, 6, .ref told_6), (r0, 7, 1, .ref syntax_3)]) [0, 1, 2, 3, 4, 5, 6, 7, 8] rfl (M1 := []) [] rfl (I1 := []) [] rfl
              clear hh_110
              have hh_121 := hh_120.addI (jSef.ie hd_119)
              clear hh_120
              refine j7_put hx hb hown hK hh_121 hB hAp hB11 (C := RX9) (T := TX9) (N := 9) rfl (by decide) hg_113 (i := 8) (by decide) hly_11_8 rfl hlk_140 rfl (ty := (.array (.object "ProofServer$Goal"))) (v := .ref H_44.size) (by decide +kernel) rfl rfl (⟨_, _, rfl, hgn_110, by omega⟩) rfl (L1 := [(r1, 11, 7, .ref ret_41), (r1, 11, 6, .int z_7), (syntax_3, 12, 9, .ref nodes_28), (syntax_3, 12, 10, .int nodeCount_22), (r1, 11, 4, .ref sx_18), (r1, 11, 5, .ref sy_18), (syntax_3, 12, 5, .int word_16), (syntax_3, 12, 6, .ref told_6), (r0, 7, 1, .ref syntax_3)]) [0, 1, 2, 3, 4, 5, 6, 7, 8] rfl rfl rfl dX5_propose_150 (fun H_122 locs_122 hh_122 => ?_)
              clear hh_121
              refine lv_iconst (v := 0) hx hb dX5_propose_153 (by decide) ?_
              have hsz_123 := hh_122.2.2.2.2.2.1
              have htt_123 := hh_122.2.2.2.2.2.2.1
              refine W.room (fun hrc_123 hrs_123 => ?_)
              refine W.widen (k := LC - s.heap.size) (n := LS - jTot s.heap) (by omega) (by omega) ?_
              rw [hQ]
              exact W.iret (v := 0) hx hb hr (fun t ht hW => ⟨⟨0, G_110, rfl, trivial, ⟨hh_122.ra (by first | omega | (simp only; omega)) (by first | omega | (simp only; omega)) (M1 := []) [] rfl ht, hNn_110, by rw [ht]; exact hh_122.2.2.2.2.2.2.2.2.sub (L1 := [(jFs11, jSef dC dI G_110)]) [0] rfl⟩⟩, by rw [ht]; try exact hh_122.1.1, fun q h9 hq => by rw [ht]; try exact hh_122.1.2.1 q h9 hq⟩) hh_122.1.2.2 dX5_propose_154
            · skip
              have c_42' : w0_17.toInt ≠ 0 := jb_eq_n (rfl) ((by decide)) c_42
              exact (by omega : False).elim
          · skip
            have c_25' : w0_17.toInt ≠ 0 := jb_eq_n (rfl) ((by decide)) c_25
            refine lv_aload_n hx hb dX5_propose_66 rfl (lv_at hl 2 rfl) ?_
            refine j7_read hx hb hown hK (C := RX9) (T := TX9) (N := 9) rfl hly_11_5 hlk_117 (hh_21.at 2 rfl) dX5_propose_67 ?_
            refine j7_qlen hx hb hK5.1 hh_21 hB313 0 rfl (by decide) hg_sy_18 (by omega) dX5_propose_70 (fun z_124 hz_124 => ?_)
            refine lv_bipush (v := 16) hx hb dX5_propose_71 (by decide) ?_
            refine lv_icmp_lt (tgt := 79) hx hb dX5_propose_73 (by decide) (fun c_125 => ?_) (fun c_125 => ?_)
            · skip
              have c_125' : z_124.toInt < 16 := jb_lt (rfl) ((by decide)) c_125
              refine lv_aload_n hx hb dX5_propose_79 rfl (lv_at hl 1 rfl) ?_
              refine j7_read hx hb hown hK (C := RX5) (T := TX5) (N := 11) rfl hly_7_1 hlk_23 (hh_21.at 5 rfl) dX5_propose_80 ?_
              obtain ⟨v_126, hv_126, hh_127⟩ := hh_21.pin (C := RX10) (T := TX10) (N := 11) hB12 rfl (by decide) hg_syntax_3 (i := 9) (by decide) rfl
              clear hh_21
              obtain ⟨nodes_128, rfl, hg_nodes_128⟩ := hv_126
              refine j7_read hx hb hown hK (C := RX10) (T := TX10) (N := 11) rfl hly_12_9 hlk_121 (hh_127.at 0 rfl) dX5_propose_83 ?_
              refine lv_aload_n hx hb dX5_propose_86 rfl (lv_at hl 1 rfl) ?_
              refine j7_read hx hb hown hK (C := RX5) (T := TX5) (N := 11) rfl hly_7_1 hlk_23 (hh_127.at 6 rfl) dX5_propose_87 ?_
              refine j7_read hx hb hown hK (C := RX10) (T := TX10) (N := 11) rfl hly_12_10 hlk_114 (hh_127.at 1 rfl) dX5_propose_90 ?_
              have hsz_129 := hh_127.2.2.2.2.2.1
              have htt_129 := hh_127.2.2.2.2.2.2.1
              refine W.room (fun hrc_129 hrs_129 => ?_)
              refine j_callx (A0 := jA base) (H0 := s.heap) (va_runS (As := [.ref nodes_128, .int nodeCount_22]) (rest := []) ⟨hx, hb, hml, hown, hts⟩ (uJ7_copyOf_59c91P l dC dI ca base B hB hAp hB280 G0 H_17 nodes_128 nodeCount_22 3000 LC LS) (va_cwS 2 hts (jgS (jWr_82 _ (List.mem_of_getElem? (i := 21) rfl)) (jWr_81 _ (List.mem_of_getElem? (i := 23) rfl)) (jWr_16 _ (List.mem_of_getElem? (i := 7) rfl)) (jWr_82 _ (List.mem_of_getElem? (i := 0) rfl))) rfl rfl rfl (by decide +kernel) ⟨by rw [← hR]; exact Nat.le_of_ble_eq_true rfl, by rw [← hR]; exact Nat.le_of_ble_eq_true rfl⟩) ⟨fun a U g mk q => by obtain ⟨q0, q1, q2, qK, q10, q11, q12⟩ := q; exact ⟨q0, q1, q2, jG.calling g mk a qK, q10, q11, q12⟩, fun U hU hW => ⟨rfl, hU, hh_127.2.1, hG.step hW hU hh_127.1, hg_nodes_128, jP.nil, by first | omega | (refine ⟨?_, ?_, ?_, ?_⟩ <;> (first | omega | rfl | assumption | decide | exact Or.inl rfl | exact Or.inr rfl | (simp only; omega)))⟩⟩ rfl rfl hl.1 rfl (lv_room (Nat.le_of_ble_eq_true rfl)) dX5_propose_93 ⟨by rw [hRc]; omega, by rw [hRs]; omega⟩) hh_127.1 (fun q _ h => h) (fun q h => h) (fun r_130 u_129 t_129 H_129 locs_129 ht_129 hvm_129 hr_130 hb_129 hz_129 hk_129 hS_129 => ?_)
              rw [ht_129] at hb_129
              obtain ⟨m_ret_129, G_129⟩ := u_129
              simp only at hb_129
              obtain ⟨⟨hb_1291, hb_1292, hb_1293, hb_1294, hb_1295, hb_1296⟩, hN_129, hbK_129⟩ := hb_129
              have hN_129 : (jNk [0, 1, 2, 3, 4, 6, 7, 8, 9, 10, 11, 12, 13, 14, 15, 16, 17, 175]) G0 G_129 := hN_129.sub (by decide)
              have hh_129 : jSt (dC, dI) B base G0 G_129 EX5_propose s.heap (0 + (1)) (0 + (m_ret_129)) [(syntax_3, 12, 9, .ref nodes_128), (syntax_3, 12, 10, .int nodeCount_22), (r1, 11, 4, .ref sx_18), (r1, 11, 5, .ref sy_18), (syntax_3, 12, 5, .int word_16), (syntax_3, 12, 6, .ref told_6), (r0, 7, 1, .ref syntax_3)] [] [(jFs11, jSef dC dI G0)] H_129 locs_129 := (hh_127.callG hb_1291 hb_1292 hb_1293 hb_1294 hb_1295 hS_129 rfl (L1 := [(syntax_3, 12, 9, .ref nodes_128), (syntax_3, 12, 10, .int nodeCount_22), (r1, 11, 4, .ref sx_18), (r1, 11, 5, .ref sy_18), (syntax_3, 12, 5, .int word_16), (syntax_3, 12, 6, .ref told_6), (r0, 7, 1, .ref syntax_3)]) [0, 1, 2, 3, 4, 5, 6] rfl rfl (M1 := []) [] rfl rfl (I1 := [(jFs11, jSef dC dI G0)]) [0] rfl rfl).more hb_1296
              have hNn_129 : (jNk [0, 1, 2, 3, 4, 6, 7, 8, 9, 10, 11, 12, 13, 14, 15, 16, 17, 175]) G0 G_129 := (jNk.rf).tr hN_129
              have hg_131 := hb_1292 _ _ hg_r0
              have hg_132 := hb_1292 _ _ hg_r1
              have hg_133 := hb_1292 _ _ hg_nodes_128
              have hg_134 := hb_1292 _ _ hg_sx_18
              have hg_135 := hb_1292 _ _ hg_sy_18
              have hg_136 := hb_1292 _ _ hg_told_6
              have hg_137 := hb_1292 _ _ hg_syntax_3
              have hd_138 := jSef.grow (hh_129.iv 0 rfl) hb_1292 hN_129 (by decide)
              have hh_139 := hh_129.sub (L1 := [(syntax_3, 12, 9, .ref nodes_128), (syntax_3, 12, 10, .int nodeCount_22), (r1, 11, 4, .ref sx_18), (r1, 11, 5, .ref sy_18), (syntax_3, 12, 5, .int word_16), (syntax_3, 12, 6, .ref told_6), (r0, 7, 1, .ref syntax_3)]) [0, 1, 2, 3, 4, 5, 6] rfl (M1 := []) [] rfl (I1 := []) [] rfl
              clear hh_129
              have hh_140 := hh_139.addI (jSef.ie hd_138)
              clear hh_139
              obtain ⟨hr_130, hr_130n, hr_130p⟩ := hr_130
              try simp only at hr_130p
              obtain ⟨ret_141, rfl, hg_ret_141⟩ := hr_130
              have hsy_129 : s.heap.size ≤ ret_141 := Nat.le_trans hh_127.1.1 hr_130n.le
              refine lv_astore (lv' := [(4, .ref ret_141), (3, .int w0_17), (0, .ref r0), (1, .ref r1), (2, .int z_7)]) hx hb dX5_propose_96 hl (by decide) rfl (fun ls hl => ?_)
              refine lv_iload_n hx hb dX5_propose_98 rfl (lv_at hl 1 rfl) ?_
              refine lv_if_eq (tgt := 112) hx hb dX5_propose_99 (by decide) (fun c_142 => ?_) (fun c_142 => ?_)
              · skip
                have c_142' : w0_17.toInt = 0 := jb_eq (rfl) ((by decide)) c_142
                exact (by omega : False).elim
              · skip
                have c_142' : w0_17.toInt ≠ 0 := jb_eq_n (rfl) ((by decide)) c_142
                refine lv_aload_n hx hb dX5_propose_102 rfl (lv_at hl 3 rfl) ?_
                refine lv_iload_n hx hb dX5_propose_103 rfl (lv_at hl 4 rfl) ?_
                refine lv_aload hx hb dX5_propose_104 (lv_at hl 0 rfl) ?_
                have hsz_143 := hh_140.2.2.2.2.2.1
                have htt_143 := hh_140.2.2.2.2.2.2.1
                refine W.room (fun hrc_143 hrs_143 => ?_)
                refine va_callv (A0 := jA base) (H0 := s.heap) (va_runV (As := [.int z_7, .ref ret_141]) (rest := []) ⟨hx, hb, hml, hown, hts⟩ (uX9_addFact l dC dI ca base B hB hAp hB11 hB101 hB280 hB313 G_129 H_129 r1 z_7 ret_141 m_ret_129 sx_18 sm_18 sy_18 sm_18 LC LS) (cwV 2 hts (jgV (jWr_82 _ (List.mem_of_getElem? (i := 22) rfl)) (jWr_82 _ (List.mem_of_getElem? (i := 23) rfl)) (jWr_83 _ (List.mem_of_getElem? (i := 0) rfl)) (jWr_4 _ (List.mem_of_getElem? (i := 18) rfl)) (jWr_83 _ (List.mem_of_getElem? (i := 1) rfl))) rfl rfl rfl (by decide +kernel) ⟨by rw [← hR]; exact Nat.le_of_ble_eq_true rfl, by rw [← hR]; exact Nat.le_of_ble_eq_true rfl⟩) ⟨fun a U g mk q => by obtain ⟨q0, q1, q2, qK, q10, q11, q12, q13, q14, q15, q16⟩ := q; exact ⟨q0, q1, q2, jG.calling g mk a qK, (jK5.moved (Vm.Alike.refl U.vm) q10), q11, q12, q13, q14, q15, q16⟩, hh_140.recv (C := RX9) (T := TX9) (N := 9) hB11 rfl (by decide) hg_132 hK, fun U hU hW => ⟨rfl, hU, hh_140.2.1, hG.step hW hU hh_140.1, jK5.moved hW.alike hK5, hg_132, hg_ret_141, hg_134, hg_135, (hh_140.2.2.1.sub (L1 := [(r1, 11, 4, .ref sx_18), (r1, 11, 5, .ref sy_18)]) [2, 3] rfl), by first | omega | (refine ⟨?_, ?_, ?_⟩ <;> (first | omega | rfl | assumption | decide | exact Or.inl rfl | exact Or.inr rfl | (simp only; omega)))⟩⟩ rfl rfl hl.1 rfl (lv_room (Nat.le_of_ble_eq_true rfl)) dX5_propose_106 ⟨by rw [hRc]; omega, by rw [hRs]; omega⟩) hh_140.1 (fun q _ h => h) (fun q h => h) (fun u_143 t_143 H_143 locs_143 ht_143 hvm_143 hr_144 hb_143 hz_143 hk_143 hS_143 => ?_)
                rw [ht_143] at hb_143
                obtain ⟨ga_143, m_ga_143, gc_143, m_gc_143, G_143⟩ := u_143
                simp only at hb_143
                obtain ⟨⟨hb_1431, hb_1432, hb_1433, hb_1434, hb_1435, hb_1436⟩, hgq_143_0, hgq_143_1, hN_143, hbO_143⟩ := hb_143
                have hN_143 : (jNk [0, 1, 2, 3, 4, 6, 7, 8, 9, 10, 11, 12, 13, 14, 15, 16, 17, 175]) G_129 G_143 := hN_143.sub (by decide)
                have hy_145 := hh_140.iv 0 rfl
                have hh_143 : jSt (dC, dI) B base G0 G_143 EX5_propose s.heap ((0 + (1)) + (2)) ((0 + (m_ret_129)) + (40)) [(r1, 11, 4, .ref ga_143), (r1, 11, 5, .ref gc_143), (syntax_3, 12, 9, .ref nodes_128), (syntax_3, 12, 10, .int nodeCount_22), (syntax_3, 12, 5, .int word_16), (syntax_3, 12, 6, .ref told_6), (r0, 7, 1, .ref syntax_3)] [] [] H_143 locs_143 := (hh_140.callG hb_1431 hb_1432 hb_1433 hb_1434 hb_1435 hS_143 rfl (L1 := [(syntax_3, 12, 9, .ref nodes_128), (syntax_3, 12, 10, .int nodeCount_22), (syntax_3, 12, 5, .int word_16), (syntax_3, 12, 6, .ref told_6), (r0, 7, 1, .ref syntax_3)]) [0, 1, 4, 5, 6] rfl rfl (M1 := []) [] rfl rfl (I1 := []) [] rfl rfl).more hb_1436
                have hNn_143 : (jNk [0, 1, 2, 3, 4, 6, 7, 8, 9, 10, 11, 12, 13, 14, 15, 16, 17, 175]) G0 G_143 := (hNn_129).tr hN_143
                have hg_146 := hb_1432 _ _ hg_ret_141
                have hg_147 := hb_1432 _ _ hg_131
                have hg_148 := hb_1432 _ _ hg_132
                have hg_149 := hb_1432 _ _ hg_133
                have hg_150 := hb_1432 _ _ hg_136
                have hg_151 := hb_1432 _ _ hg_137
                have hyp_143 : m_gc_143 = m_ga_143 ∧ m_ga_143 ≤ 16 := by (try simp only at hr_144); omega
                have hy_152 := jSef.own hy_145 hbO_143 hb_1432 hN_143 (by decide) ⟨_, _, _, hh_143.at 0 rfl, hh_143.at 1 rfl, hgq_143_0, jSz hgq_143_1 hyp_143.1, hyp_143.2⟩
                have hh_153 := hh_143.addI (jSef.ie hy_152)
                clear hh_143
                try simp only at hr_144
                obtain ⟨hr_144_0, hr_144_1⟩ := hr_144
                refine lv_goto (tgt := 153) hx hb dX5_propose_109 (by decide) ?_
                refine lv_iconst (v := 0) hx hb dX5_propose_153 (by decide) ?_
                have hsz_154 := hh_153.2.2.2.2.2.1
                have htt_154 := hh_153.2.2.2.2.2.2.1
                refine W.room (fun hrc_154 hrs_154 => ?_)
                refine W.widen (k := LC - s.heap.size) (n := LS - jTot s.heap) (by omega) (by omega) ?_
                rw [hQ]
                exact W.iret (v := 0) hx hb hr (fun t ht hW => ⟨⟨0, G_143, rfl, trivial, ⟨hh_153.ra (by first | omega | (simp only; omega)) (by first | omega | (simp only; omega)) (M1 := []) [] rfl ht, hNn_143, by rw [ht]; exact hh_153.2.2.2.2.2.2.2.2.sub (L1 := [(jFs11, jSef dC dI G_143)]) [0] rfl⟩⟩, by rw [ht]; try exact hh_153.1.1, fun q h9 hq => by rw [ht]; try exact hh_153.1.2.1 q h9 hq⟩) hh_153.1.2.2 dX5_propose_154
            · skip
              have c_125' : z_124.toInt ≥ 16 := jb_lt_n (rfl) ((by decide)) c_125
              refine lv_bipush (v := 9) hx hb dX5_propose_76 (by decide) ?_
              have hsz_155 := hh_21.2.2.2.2.2.1
              have htt_155 := hh_21.2.2.2.2.2.2.1
              refine W.room (fun hrc_155 hrs_155 => ?_)
              refine W.widen (k := LC - s.heap.size) (n := LS - jTot s.heap) (by omega) (by omega) ?_
              rw [hQ]
              exact W.iret (v := 9) hx hb hr (fun t ht hW => ⟨⟨9, G0, rfl, trivial, ⟨hh_21.ra (by first | omega | (simp only; omega)) (by first | omega | (simp only; omega)) (M1 := []) [] rfl ht, jNk.rf, by rw [ht]; exact hh_21.2.2.2.2.2.2.2.2.sub (L1 := [(jFs11, jSef dC dI G0)]) [0] rfl⟩⟩, by rw [ht]; try exact hh_21.1.1, fun q h9 hq => by rw [ht]; try exact hh_21.1.2.1 q h9 hq⟩) hh_21.1.2.2 dX5_propose_78
      refine lv_icmp_ne (tgt := 48) hx hb dX5_propose_41 (by decide) (fun c_156 => ?_) (fun c_156 => ?_)
      · skip
        have c_156' : word_16.toInt ≠ 5 := jb_ne (rfl) ((by decide)) c_156
        refine lv_iconst (v := 0) hx hb dX5_propose_48 (by decide) ?_
        refine W.tight (c2 := 0) (n2 := 0) hh_15.2.2.2.2.2.1 hh_15.2.2.2.2.2.2.1 ?_
        exact C49 0 _ _ hh_15 (Or.inl rfl) (trivial) _ (lv_sub hl [1, 2, 0] rfl)
      · skip
        have c_156' : word_16.toInt = 5 := jb_ne_n (rfl) ((by decide)) c_156
        refine lv_iconst (v := 1) hx hb dX5_propose_44 (by decide) ?_
        refine lv_goto (tgt := 49) hx hb dX5_propose_45 (by decide) ?_
        refine W.tight (c2 := 0) (n2 := 0) hh_15.2.2.2.2.2.1 hh_15.2.2.2.2.2.2.1 ?_
        exact C49 1 _ _ hh_15 (Or.inr rfl) (trivial) _ (lv_sub hl [1, 2, 0] rfl)
    · skip
      have c_13' : r_12.toInt = 0 := jb_ne_n (rfl) ((by decide)) c_13
      refine lv_iconst (v := 5) hx hb dX5_propose_31 (by decide) ?_
      have hsz_157 := hh_11.2.2.2.2.2.1
      have htt_157 := hh_11.2.2.2.2.2.2.1
      refine W.room (fun hrc_157 hrs_157 => ?_)
      refine W.widen (k := LC - s.heap.size) (n := LS - jTot s.heap) (by omega) (by omega) ?_
      rw [hQ]
      exact W.iret (v := 5) hx hb hr (fun t ht hW => ⟨⟨5, G0, rfl, trivial, ⟨hh_11.ra (by first | omega | (simp only; omega)) (by first | omega | (simp only; omega)) (M1 := []) [] rfl ht, jNk.rf, by rw [ht]; exact hh_11.2.2.2.2.2.2.2.2.sub (L1 := [(jFs11, jSef dC dI G0)]) [0] rfl⟩⟩, by rw [ht]; try exact hh_11.1.1, fun q h9 hq => by rw [ht]; try exact hh_11.1.2.1 q h9 hq⟩) hh_11.1.2.2 dX5_propose_32
  · skip
    have c_10' : r_9.toInt ≠ 0 := jb_eq_n (rfl) ((by decide)) c_10
    refine lv_bipush (v := 6) hx hb dX5_propose_19 (by decide) ?_
    have hsz_158 := hh_8.2.2.2.2.2.1
    have htt_158 := hh_8.2.2.2.2.2.2.1
    refine W.room (fun hrc_158 hrs_158 => ?_)
    refine W.widen (k := LC - s.heap.size) (n := LS - jTot s.heap) (by omega) (by omega) ?_
    rw [hQ]
    exact W.iret (v := 6) hx hb hr (fun t ht hW => ⟨⟨6, G0, rfl, trivial, ⟨hh_8.ra (by first | omega | (simp only; omega)) (by first | omega | (simp only; omega)) (M1 := []) [] rfl ht, jNk.rf, by rw [ht]; exact hh_8.2.2.2.2.2.2.2.2.sub (L1 := [(jFs11, jSef dC dI G0)]) [0] rfl⟩⟩, by rw [ht]; try exact hh_8.1.1, fun q h9 hq => by rw [ht]; try exact hh_8.1.2.1 q h9 hq⟩) hh_8.1.2.2 dX5_propose_21
set_option maxHeartbeats 4000000 in
set_option maxRecDepth 20000 in
theorem uX5_leaveProof (l : Launch) (dC : Nat → ClassId) (dI : Nat → Nat → Nat) (ca : Nat → ClassId) (base : Nat) (B : jF) (hB : jBok B) (hAp : jAp (dC, dI)) (hB5 : ∀ n G a H, B 5 n G a H ↔ jOb (dC, dI) 5 4 (F5 n G) a H) (hB7 : ∀ n G a H, B 7 n G a H ↔ jOb (dC, dI) 7 11 (F7 n G) a H) (hB11 : ∀ n G a H, B 11 n G a H ↔ jOb (dC, dI) 11 9 (F11 n G) a H) (hB12 : ∀ n G a H, B 12 n G a H ↔ jOb (dC, dI) 12 11 (F12b n G) a H) (hB101 : ∀ n G a H, B 101 n G a H ↔ jAr (dC, dI) (ca 1) (fun j z => True) n a H) (hB214 : ∀ n G a H, B 214 n G a H ↔ jAq (dC, dI) (ca 7) (jQg) n G a H) (hB280 : ∀ n G a H, B 280 n G a H ↔ jAr (dC, dI) (ca 1) (fun j z => -1 ≤ z.toInt) n a H) (hB313 : ∀ n G a H, B 313 n G a H ↔ jAq (dC, dI) (ca 8) (jQk 280 80) n G a H) (G0 : jT) (H0 : Heap) (r0 : Nat) (r1 : Nat) (LC LS : Nat) : Met l yX5_leaveProof (jw yX5_leaveProof cX5_leaveProof 2 (some .int)) ({ frames := 4, cells := LC - H0.size, slots := LS - jTot H0, locals := 127 }) (va_Pc [.ref r0, .ref r1] (fun U => U.heap = H0 ∧ jX B base G0 [] H0 ∧ jG dC dI ca base U ∧ jK2 dC dI ca U ∧ jK5 dC dI ca U ∧ jK6 U ∧ G0 r0 = some (7, 0) ∧ G0 r1 = some (11, 0) ∧ jP (dC, dI) G0 H0 [] ∧ jIs (dC, dI) G0 H0 [(jFs11, jSef dC dI G0)] ∧ H0.size + 4 ≤ LC ∧ jTot H0 + 60 ≤ LS ∧ True)) (va_Qi (S := jT) (fun r u => (True)) (fun u t => jRa (dC, dI) B base G0 u EX5_leaveProof H0 (4) (60) [] t.heap ∧ (jNk [0, 1, 2, 3, 4, 5, 6, 7, 8, 9, 10, 11, 12, 13, 14, 15, 16, 17, 175]) G0 u ∧ jIs (dC, dI) u t.heap [(jFs11, jSef dC dI u)]) (jA base)) (LC - H0.size) (LS - jTot H0) (jA base) := by
  refine Met.ofW (cc := cX5_leaveProof) (maxL := 2) (ret := (some .int)) (by decide) rfl ?_
  intro p e s m args below meth c s₁ Bd hml hv
  obtain ⟨rfl, hH0, hX, hG, hK2, hK5, hK6, hg_r0, hg_r1, hP0, hI0, hLC0, hLS0, hp0⟩ := hv
  have hK := hG.1
  have hx := Bd.exec
  have hb := Bd.bytes
  have hr := Bd.returns
  have hts := atoms_spec (ws := (jw yX5_leaveProof cX5_leaveProof 2 (some .int))) Bd.pre
  have htw : ∀ w ∈ jWl, w.before _ s = true := fun w h => hts w (List.mem_cons_of_mem _ h)
  have hown : s.vm.findClass RX5 = some m.cls := findClass_of_methodNamed Bd.named
  have hlocks := Bd.notSynchronized
  obtain ⟨Q, hQ⟩ : ∃ Q, Q = MQ below (va_Qi (S := jT) (fun r u => (True)) (fun u t => jRa (dC, dI) B base G0 u EX5_leaveProof H0 (4) (60) [] t.heap ∧ (jNk [0, 1, 2, 3, 4, 5, 6, 7, 8, 9, 10, 11, 12, 13, 14, 15, 16, 17, 175]) G0 u ∧ jIs (dC, dI) u t.heap [(jFs11, jSef dC dI u)]) (jA base)) ([.ref r0, .ref r1] : List Value).toArray s (LC - H0.size) (LS - jTot H0) (jA base) := ⟨_, rfl⟩
  rw [← hQ]
  have hl := lv_entry ([.ref r0, .ref r1]) (n := 2) (Nat.le_of_ble_eq_true rfl)
  rw [lg_entry_eq]
  generalize (lg_sl ([.ref r0, .ref r1]) ++ List.replicate (2 - (lg_sl ([.ref r0, .ref r1])).length) Slot.unset).toArray = ls at hl ⊢
  have hl : lv_has ls 2 [(0, .ref r0), (1, .ref r1)] := hl
  generalize hR : (headSpec (jw yX5_leaveProof cX5_leaveProof 2 (some .int)) ({ frames := 4, cells := LC - H0.size, slots := LS - jTot H0, locals := 127 })).room = R
  subst hH0
  have hh : jSt (dC, dI) B base G0 G0 EX5_leaveProof s.heap 0 0 [] [] [(jFs11, jSef dC dI G0)] s.heap [] := jSt.start hX hP0 jMc.nil hI0
  clear hX hP0
  have hk0 : (0 : Int32).toInt = 0 := by decide
  have hk1 : (1 : Int32).toInt = 1 := by decide
  have hk7 : (7 : Int32).toInt = 7 := by decide
  have hk9 : (9 : Int32).toInt = 9 := by decide
  have hk16 : (16 : Int32).toInt = 16 := by decide
  have hly_7_1 := htw (u_lay RX5 TX5 1) (jWc_wsX50 _ (u_in_lay (by decide)))
  have hly_11_5 := htw (u_lay RX9 TX9 5) (jWc_wsX90 _ (u_in_lay (by decide)))
  have hly_11_6 := htw (u_lay RX9 TX9 6) (jWc_wsX90 _ (u_in_lay (by decide)))
  have hly_11_7 := htw (u_lay RX9 TX9 7) (jWc_wsX90 _ (u_in_lay (by decide)))
  have hly_11_8 := htw (u_lay RX9 TX9 8) (jWc_wsX90 _ (u_in_lay (by decide)))
  have hly_12_5 := htw (u_lay RX10 TX10 5) (jWc_wsX100 _ (u_in_lay (by decide)))
  have hlk_23 := (htw (.fieldLink RX5 23 "ProofServer$Kernel" "syntax" "LProofServer$Syntax;") (jWr_4 _ (List.mem_of_getElem? (i := 15) rfl)))
  have hlk_74 := (htw (.fieldLink RX5 74 "ProofServer$Syntax" "word" "I") (jWr_78 _ (List.mem_of_getElem? (i := 19) rfl)))
  have hlk_140 := (htw (.fieldLink RX5 140 "ProofServer$State" "goals" "[LProofServer$Goal;") (jWr_82 _ (List.mem_of_getElem? (i := 12) rfl)))
  have hlk_117 := (htw (.fieldLink RX5 117 "ProofServer$State" "facts" "[[I") (jWr_82 _ (List.mem_of_getElem? (i := 6) rfl)))
  have hlk_77 := (htw (.fieldLink RX5 77 "ProofServer$State" "lemma" "I") (jWr_78 _ (List.mem_of_getElem? (i := 20) rfl)))
  have hlk_133 := (htw (.fieldLink RX5 133 "ProofServer$State" "statement" "[I") (jWr_82 _ (List.mem_of_getElem? (i := 8) rfl)))
  have hbs : base ≤ s.heap.size := Nat.le_of_lt (Nat.lt_of_le_of_lt (hh.ab hg_r0).1 (hh.ab hg_r0).2)
  have hRc : R.cells = LC - s.heap.size := by rw [← hR]; rfl
  have hRs : R.slots = LS - jTot s.heap := by rw [← hR]; rfl
  refine lv_aload_n hx hb dX5_leaveProof_0 rfl (lv_at hl 0 rfl) ?_
  obtain ⟨v_1, hv_1, hh_2⟩ := hh.pin (C := RX5) (T := TX5) (N := 11) hB7 rfl (by decide) hg_r0 (i := 1) (by decide) rfl
  clear hh
  obtain ⟨syntax_3, rfl, hg_syntax_3⟩ := hv_1
  refine j7_read hx hb hown hK (C := RX5) (T := TX5) (N := 11) rfl hly_7_1 hlk_23 (hh_2.at 0 rfl) dX5_leaveProof_1 ?_
  obtain ⟨v_4, hv_4, hh_5⟩ := hh_2.pin (C := RX10) (T := TX10) (N := 11) hB12 rfl (by decide) hg_syntax_3 (i := 5) (by decide) rfl
  clear hh_2
  obtain ⟨word_6, rfl⟩ := hv_4
  refine j7_read hx hb hown hK (C := RX10) (T := TX10) (N := 11) rfl hly_12_5 hlk_74 (hh_5.at 0 rfl) dX5_leaveProof_4 ?_
  refine lv_bipush (v := 7) hx hb dX5_leaveProof_7 (by decide) ?_
  refine lv_icmp_ne (tgt := 48) hx hb dX5_leaveProof_9 (by decide) (fun c_7 => ?_) (fun c_7 => ?_)
  · skip
    have c_7' : word_6.toInt ≠ 7 := jb_ne (rfl) ((by decide)) c_7
    refine lv_aload_n hx hb dX5_leaveProof_48 rfl (lv_at hl 1 rfl) ?_
    have hsz_8 := hh_5.2.2.2.2.2.1
    have htt_8 := hh_5.2.2.2.2.2.2.1
    refine W.room (fun hrc_8 hrs_8 => ?_)
    refine va_callv (A0 := jA base) (H0 := s.heap) (va_runV (As := []) (rest := []) ⟨hx, hb, hml, hown, hts⟩ (uX9_endProof l dC dI ca base B hB hAp hB5 hB11 hB214 hB280 G0 s.heap r1 LC LS) (cwV 0 hts (jgV (jWr_83 _ (List.mem_of_getElem? (i := 18) rfl)) (jWr_83 _ (List.mem_of_getElem? (i := 19) rfl)) (jWr_83 _ (List.mem_of_getElem? (i := 20) rfl)) (jWr_4 _ (List.mem_of_getElem? (i := 18) rfl)) (jWr_83 _ (List.mem_of_getElem? (i := 21) rfl))) rfl rfl rfl (by decide +kernel) ⟨by rw [← hR]; exact Nat.le_of_ble_eq_true rfl, by rw [← hR]; exact Nat.le_of_ble_eq_true rfl⟩) ⟨fun a U g mk q => by obtain ⟨q0, q1, q2, qK, q10, q11, q12, q13, q14⟩ := q; exact ⟨q0, q1, q2, jG.calling g mk a qK, (va_K.moved (Vm.Alike.refl U.vm) q10), (jK6.moved (Vm.Alike.refl U.vm) q11), q12, q13, q14⟩, hh_5.recv (C := RX9) (T := TX9) (N := 9) hB11 rfl (by decide) hg_r1 hK, fun U hU hW => ⟨rfl, hU, hh_5.2.1, hG.step hW hU hh_5.1, va_K.moved hW.alike hK2, jK6.moved hW.alike hK6, hg_r1, jP.nil, (by omega), (by omega), trivial⟩⟩ rfl rfl hl.1 rfl (lv_room (Nat.le_of_ble_eq_true rfl)) dX5_leaveProof_49 ⟨by rw [hRc]; omega, by rw [hRs]; omega⟩) hh_5.1 (fun q _ h => h) (fun q h => h) (fun u_8 t_8 H_8 locs_8 ht_8 hvm_8 hr_9 hb_8 hz_8 hk_8 hS_8 => ?_)
    rw [ht_8] at hb_8
    obtain ⟨G_8, rfl⟩ : ∃ z, z = u_8 := ⟨_, rfl⟩
    try simp only at hb_8
    obtain ⟨⟨hb_81, hb_82, hb_83, hb_84, hb_85, hb_86⟩, hN_8⟩ := hb_8
    have hh_8 : jSt (dC, dI) B base G0 G_8 EX5_leaveProof s.heap (0 + (2)) (0 + (0)) [(syntax_3, 12, 5, .int word_6), (r0, 7, 1, .ref syntax_3)] [] [(jFs11, jSef dC dI G0)] H_8 locs_8 := (hh_5.callG hb_81 hb_82 hb_83 hb_84 hb_85 hS_8 rfl (L1 := [(syntax_3, 12, 5, .int word_6), (r0, 7, 1, .ref syntax_3)]) [0, 1] rfl rfl (M1 := []) [] rfl rfl (I1 := [(jFs11, jSef dC dI G0)]) [0] rfl rfl).more hb_86
    have hNn_8 : (jNk [0, 1, 2, 3, 4, 5, 6, 7, 8, 9, 10, 11, 12, 13, 14, 15, 16, 17, 175]) G0 G_8 := (jNk.rf).tr hN_8
    have hg_10 := hb_82 _ _ hg_r0
    have hg_11 := hb_82 _ _ hg_r1
    have hg_12 := hb_82 _ _ hg_syntax_3
    have hd_13 := jSef.grow (hh_8.iv 0 rfl) hb_82 hN_8 (by decide)
    have hh_14 := hh_8.sub (L1 := [(syntax_3, 12, 5, .int word_6), (r0, 7, 1, .ref syntax_3)]) [0, 1] rfl (M1 := []) [] rfl (I1 := []) [] rfl
    clear hh_8
    have hh_15 := hh_14.addI (jSef.ie hd_13)
    clear hh_14
    try simp only at hr_9
    refine lv_iconst (v := 0) hx hb dX5_leaveProof_52 (by decide) ?_
    have hsz_16 := hh_15.2.2.2.2.2.1
    have htt_16 := hh_15.2.2.2.2.2.2.1
    refine W.room (fun hrc_16 hrs_16 => ?_)
    refine W.widen (k := LC - s.heap.size) (n := LS - jTot s.heap) (by omega) (by omega) ?_
    rw [hQ]
    exact W.iret (v := 0) hx hb hr (fun t ht hW => ⟨⟨0, G_8, rfl, trivial, ⟨hh_15.ra (by first | omega | (simp only; omega)) (by first | omega | (simp only; omega)) (M1 := []) [] rfl ht, hNn_8, by rw [ht]; exact hh_15.2.2.2.2.2.2.2.2.sub (L1 := [(jFs11, jSef dC dI G_8)]) [0] rfl⟩⟩, by rw [ht]; try exact hh_15.1.1, fun q h9 hq => by rw [ht]; try exact hh_15.1.2.1 q h9 hq⟩) hh_15.1.2.2 dX5_leaveProof_53
  · skip
    have c_7' : word_6.toInt = 7 := jb_ne_n (rfl) ((by decide)) c_7
    obtain ⟨sx_17, sy_17, sm_17, hs1_17, hs2_17, hg_sx_17, hg_sy_17, hsm_17⟩ := (hh_5.iv 0 rfl) _ hg_r1
    have hh_18 := hh_5.more (P1 := [(r1, 11, 4, .ref sx_17), (r1, 11, 5, .ref sy_17)]) (jP.cons hg_r1 hs1_17 (jP.cons hg_r1 hs2_17 jP.nil))
    clear hh_5 hs1_17 hs2_17
    refine lv_aload_n hx hb dX5_leaveProof_12 rfl (lv_at hl 1 rfl) ?_
    obtain ⟨v_19, hv_19, hh_20⟩ := hh_18.pin (C := RX9) (T := TX9) (N := 9) hB11 rfl (by decide) hg_r1 (i := 8) (by decide) rfl
    clear hh_18
    obtain ⟨goals_21, ngoals_21, rfl, hg_goals_21, hn_goals_21⟩ := hv_19
    refine j7_read hx hb hown hK (C := RX9) (T := TX9) (N := 9) rfl hly_11_8 hlk_140 (hh_20.at 0 rfl) dX5_leaveProof_13 ?_
    refine j7_qlen hx hb hK2 hh_20 hB214 3 rfl (by decide) hg_goals_21 (by omega) dX5_leaveProof_16 (fun z_22 hz_22 => ?_)
    refine lv_if_le (tgt := 23) hx hb dX5_leaveProof_17 (by decide) (fun c_23 => ?_) (fun c_23 => ?_)
    · skip
      have c_23' : z_22.toInt ≤ 0 := jb_le (rfl) ((by decide)) c_23
      refine lv_aload_n hx hb dX5_leaveProof_23 rfl (lv_at hl 1 rfl) ?_
      refine j7_read hx hb hown hK (C := RX9) (T := TX9) (N := 9) rfl hly_11_5 hlk_117 (hh_20.at 2 rfl) dX5_leaveProof_24 ?_
      refine j7_qlen hx hb hK5.1 hh_20 hB313 0 rfl (by decide) hg_sy_17 (by omega) dX5_leaveProof_27 (fun z_24 hz_24 => ?_)
      refine lv_bipush (v := 16) hx hb dX5_leaveProof_28 (by decide) ?_
      refine lv_icmp_lt (tgt := 36) hx hb dX5_leaveProof_30 (by decide) (fun c_25 => ?_) (fun c_25 => ?_)
      · skip
        have c_25' : z_24.toInt < 16 := jb_lt (rfl) ((by decide)) c_25
        refine lv_aload_n hx hb dX5_leaveProof_36 rfl (lv_at hl 1 rfl) ?_
        refine lv_aload_n hx hb dX5_leaveProof_37 rfl (lv_at hl 1 rfl) ?_
        obtain ⟨v_26, hv_26, hh_27⟩ := hh_20.pin (C := RX9) (T := TX9) (N := 9) hB11 rfl (by decide) hg_r1 (i := 6) (by decide) rfl
        clear hh_20
        obtain ⟨lemma_28, rfl⟩ := hv_26
        refine j7_read hx hb hown hK (C := RX9) (T := TX9) (N := 9) rfl hly_11_6 hlk_77 (hh_27.at 0 rfl) dX5_leaveProof_38 ?_
        refine lv_aload_n hx hb dX5_leaveProof_41 rfl (lv_at hl 1 rfl) ?_
        obtain ⟨v_29, hv_29, hh_30⟩ := hh_27.pin (C := RX9) (T := TX9) (N := 9) hB11 rfl (by decide) hg_r1 (i := 7) (by decide) rfl
        clear hh_27
        obtain ⟨statement_31, nstatement_31, rfl, hg_statement_31, hn_statement_31⟩ := hv_29
        refine j7_read hx hb hown hK (C := RX9) (T := TX9) (N := 9) rfl hly_11_7 hlk_133 (hh_30.at 0 rfl) dX5_leaveProof_42 ?_
        have hsz_32 := hh_30.2.2.2.2.2.1
        have htt_32 := hh_30.2.2.2.2.2.2.1
        refine W.room (fun hrc_32 hrs_32 => ?_)
        refine va_callv (A0 := jA base) (H0 := s.heap) (va_runV (As := [.int lemma_28, .ref statement_31]) (rest := []) ⟨hx, hb, hml, hown, hts⟩ (uX9_addFact l dC dI ca base B hB hAp hB11 hB101 hB280 hB313 G0 s.heap r1 lemma_28 statement_31 nstatement_31 sx_17 sm_17 sy_17 sm_17 LC LS) (cwV 2 hts (jgV (jWr_82 _ (List.mem_of_getElem? (i := 22) rfl)) (jWr_82 _ (List.mem_of_getElem? (i := 23) rfl)) (jWr_83 _ (List.mem_of_getElem? (i := 0) rfl)) (jWr_4 _ (List.mem_of_getElem? (i := 18) rfl)) (jWr_83 _ (List.mem_of_getElem? (i := 1) rfl))) rfl rfl rfl (by decide +kernel) ⟨by rw [← hR]; exact Nat.le_of_ble_eq_true rfl, by rw [← hR]; exact Nat.le_of_ble_eq_true rfl⟩) ⟨fun a U g mk q => by obtain ⟨q0, q1, q2, qK, q10, q11, q12, q13, q14, q15, q16⟩ := q; exact ⟨q0, q1, q2, jG.calling g mk a qK, (jK5.moved (Vm.Alike.refl U.vm) q10), q11, q12, q13, q14, q15, q16⟩, hh_30.recv (C := RX9) (T := TX9) (N := 9) hB11 rfl (by decide) hg_r1 hK, fun U hU hW => ⟨rfl, hU, hh_30.2.1, hG.step hW hU hh_30.1, jK5.moved hW.alike hK5, hg_r1, hg_statement_31, hg_sx_17, hg_sy_17, (hh_30.2.2.1.sub (L1 := [(r1, 11, 4, .ref sx_17), (r1, 11, 5, .ref sy_17)]) [3, 4] rfl), by first | omega | (refine ⟨?_, ?_, ?_⟩ <;> (first | omega | rfl | assumption | decide | exact Or.inl rfl | exact Or.inr rfl | (simp only; omega)))⟩⟩ rfl rfl hl.1 rfl (lv_room (Nat.le_of_ble_eq_true rfl)) dX5_leaveProof_45 ⟨by rw [hRc]; omega, by rw [hRs]; omega⟩) hh_30.1 (fun q _ h => h) (fun q h => h) (fun u_32 t_32 H_32 locs_32 ht_32 hvm_32 hr_33 hb_32 hz_32 hk_32 hS_32 => ?_)
        rw [ht_32] at hb_32
        obtain ⟨ga_32, m_ga_32, gc_32, m_gc_32, G_32⟩ := u_32
        simp only at hb_32
        obtain ⟨⟨hb_321, hb_322, hb_323, hb_324, hb_325, hb_326⟩, hgq_32_0, hgq_32_1, hN_32, hbO_32⟩ := hb_32
        have hy_34 := hh_30.iv 0 rfl
        have hh_32 : jSt (dC, dI) B base G0 G_32 EX5_leaveProof s.heap (0 + (2)) (0 + (40)) [(r1, 11, 4, .ref ga_32), (r1, 11, 5, .ref gc_32), (r1, 11, 7, .ref statement_31), (r1, 11, 6, .int lemma_28), (r1, 11, 8, .ref goals_21), (syntax_3, 12, 5, .int word_6), (r0, 7, 1, .ref syntax_3)] [] [] H_32 locs_32 := (hh_30.callG hb_321 hb_322 hb_323 hb_324 hb_325 hS_32 rfl (L1 := [(r1, 11, 7, .ref statement_31), (r1, 11, 6, .int lemma_28), (r1, 11, 8, .ref goals_21), (syntax_3, 12, 5, .int word_6), (r0, 7, 1, .ref syntax_3)]) [0, 1, 2, 5, 6] rfl rfl (M1 := []) [] rfl rfl (I1 := []) [] rfl rfl).more hb_326
        have hNn_32 : (jNk [0, 1, 2, 3, 4, 5, 6, 7, 8, 9, 10, 11, 12, 13, 14, 15, 16, 17, 175]) G0 G_32 := (jNk.rf).tr hN_32
        have hg_35 := hb_322 _ _ hg_r0
        have hg_36 := hb_322 _ _ hg_r1
        have hg_37 := hb_322 _ _ hg_statement_31
        have hg_38 := hb_322 _ _ hg_goals_21
        have hg_39 := hb_322 _ _ hg_syntax_3
        have hyp_32 : m_gc_32 = m_ga_32 ∧ m_ga_32 ≤ 16 := by (try simp only at hr_33); omega
        have hy_40 := jSef.own hy_34 hbO_32 hb_322 hN_32 (by decide) ⟨_, _, _, hh_32.at 0 rfl, hh_32.at 1 rfl, hgq_32_0, jSz hgq_32_1 hyp_32.1, hyp_32.2⟩
        have hh_41 := hh_32.addI (jSef.ie hy_40)
        clear hh_32
        try simp only at hr_33
        obtain ⟨hr_33_0, hr_33_1⟩ := hr_33
        refine lv_aload_n hx hb dX5_leaveProof_48 rfl (lv_at hl 1 rfl) ?_
        have hsz_42 := hh_41.2.2.2.2.2.1
        have htt_42 := hh_41.2.2.2.2.2.2.1
        refine W.room (fun hrc_42 hrs_42 => ?_)
        refine va_callv (A0 := jA base) (H0 := s.heap) (va_runV (As := []) (rest := []) ⟨hx, hb, hml, hown, hts⟩ (uX9_endProof l dC dI ca base B hB hAp hB5 hB11 hB214 hB280 G_32 H_32 r1 LC LS) (cwV 0 hts (jgV (jWr_83 _ (List.mem_of_getElem? (i := 18) rfl)) (jWr_83 _ (List.mem_of_getElem? (i := 19) rfl)) (jWr_83 _ (List.mem_of_getElem? (i := 20) rfl)) (jWr_4 _ (List.mem_of_getElem? (i := 18) rfl)) (jWr_83 _ (List.mem_of_getElem? (i := 21) rfl))) rfl rfl rfl (by decide +kernel) ⟨by rw [← hR]; exact Nat.le_of_ble_eq_true rfl, by rw [← hR]; exact Nat.le_of_ble_eq_true rfl⟩) ⟨fun a U g mk q => by obtain ⟨q0, q1, q2, qK, q10, q11, q12, q13, q14⟩ := q; exact ⟨q0, q1, q2, jG.calling g mk a qK, (va_K.moved (Vm.Alike.refl U.vm) q10), (jK6.moved (Vm.Alike.refl U.vm) q11), q12, q13, q14⟩, hh_41.recv (C := RX9) (T := TX9) (N := 9) hB11 rfl (by decide) hg_36 hK, fun U hU hW => ⟨rfl, hU, hh_41.2.1, hG.step hW hU hh_41.1, va_K.moved hW.alike hK2, jK6.moved hW.alike hK6, hg_36, jP.nil, (by omega), (by omega), trivial⟩⟩ rfl rfl hl.1 rfl (lv_room (Nat.le_of_ble_eq_true rfl)) dX5_leaveProof_49 ⟨by rw [hRc]; omega, by rw [hRs]; omega⟩) hh_41.1 (fun q _ h => h) (fun q h => h) (fun u_42 t_42 H_42 locs_42 ht_42 hvm_42 hr_43 hb_42 hz_42 hk_42 hS_42 => ?_)
        rw [ht_42] at hb_42
        obtain ⟨G_42, rfl⟩ : ∃ z, z = u_42 := ⟨_, rfl⟩
        try simp only at hb_42
        obtain ⟨⟨hb_421, hb_422, hb_423, hb_424, hb_425, hb_426⟩, hN_42⟩ := hb_42
        have hh_42 : jSt (dC, dI) B base G0 G_42 EX5_leaveProof s.heap ((0 + (2)) + (2)) ((0 + (40)) + (0)) [(r1, 11, 4, .ref ga_32), (r1, 11, 5, .ref gc_32), (syntax_3, 12, 5, .int word_6), (r0, 7, 1, .ref syntax_3)] [] [(jFs11, jSef dC dI G_32)] H_42 locs_42 := (hh_41.callG hb_421 hb_422 hb_423 hb_424 hb_425 hS_42 rfl (L1 := [(r1, 11, 4, .ref ga_32), (r1, 11, 5, .ref gc_32), (syntax_3, 12, 5, .int word_6), (r0, 7, 1, .ref syntax_3)]) [0, 1, 5, 6] rfl rfl (M1 := []) [] rfl rfl (I1 := [(jFs11, jSef dC dI G_32)]) [0] rfl rfl).more hb_426
        have hNn_42 : (jNk [0, 1, 2, 3, 4, 5, 6, 7, 8, 9, 10, 11, 12, 13, 14, 15, 16, 17, 175]) G0 G_42 := (hNn_32).tr hN_42
        have hg_44 := hb_422 _ _ hg_35
        have hg_45 := hb_422 _ _ hg_36
        have hg_46 := hb_422 _ _ hgq_32_0
        have hg_47 := hb_422 _ _ hgq_32_1
        have hg_48 := hb_422 _ _ hg_39
        have hd_49 := jSef.grow (hh_42.iv 0 rfl) hb_422 hN_42 (by decide)
        have hh_50 := hh_42.sub (L1 := [(r1, 11, 4, .ref ga_32), (r1, 11, 5, .ref gc_32), (syntax_3, 12, 5, .int word_6), (r0, 7, 1, .ref syntax_3)]) [0, 1, 2, 3] rfl (M1 := []) [] rfl (I1 := []) [] rfl
        clear hh_42
        have hh_51 := hh_50.addI (jSef.ie hd_49)
        clear hh_50
        try simp only at hr_43
        refine lv_iconst (v := 0) hx hb dX5_leaveProof_52 (by decide) ?_
        have hsz_52 := hh_51.2.2.2.2.2.1
        have htt_52 := hh_51.2.2.2.2.2.2.1
        refine W.room (fun hrc_52 hrs_52 => ?_)
        refine W.widen (k := LC - s.heap.size) (n := LS - jTot s.heap) (by omega) (by omega) ?_
        rw [hQ]
        exact W.iret (v := 0) hx hb hr (fun t ht hW => ⟨⟨0, G_42, rfl, trivial, ⟨hh_51.ra (by first | omega | (simp only; omega)) (by first | omega | (simp only; omega)) (M1 := []) [] rfl ht, hNn_42, by rw [ht]; exact hh_51.2.2.2.2.2.2.2.2.sub (L1 := [(jFs11, jSef dC dI G_42)]) [0] rfl⟩⟩, by rw [ht]; try exact hh_51.1.1, fun q h9 hq => by rw [ht]; try exact hh_51.1.2.1 q h9 hq⟩) hh_51.1.2.2 dX5_leaveProof_53
      · skip
        have c_25' : z_24.toInt ≥ 16 := jb_lt_n (rfl) ((by decide)) c_25
        refine lv_bipush (v := 9) hx hb dX5_leaveProof_33 (by decide) ?_
        have hsz_53 := hh_20.2.2.2.2.2.1
        have htt_53 := hh_20.2.2.2.2.2.2.1
        refine W.room (fun hrc_53 hrs_53 => ?_)
        refine W.widen (k := LC - s.heap.size) (n := LS - jTot s.heap) (by omega) (by omega) ?_
        rw [hQ]
        exact W.iret (v := 9) hx hb hr (fun t ht hW => ⟨⟨9, G0, rfl, trivial, ⟨hh_20.ra (by first | omega | (simp only; omega)) (by first | omega | (simp only; omega)) (M1 := []) [] rfl ht, jNk.rf, by rw [ht]; exact hh_20.2.2.2.2.2.2.2.2.sub (L1 := [(jFs11, jSef dC dI G0)]) [0] rfl⟩⟩, by rw [ht]; try exact hh_20.1.1, fun q h9 hq => by rw [ht]; try exact hh_20.1.2.1 q h9 hq⟩) hh_20.1.2.2 dX5_leaveProof_35
    · skip
      have c_23' : z_22.toInt > 0 := jb_le_n (rfl) ((by decide)) c_23
      refine lv_bipush (v := 7) hx hb dX5_leaveProof_20 (by decide) ?_
      have hsz_54 := hh_20.2.2.2.2.2.1
      have htt_54 := hh_20.2.2.2.2.2.2.1
      refine W.room (fun hrc_54 hrs_54 => ?_)
      refine W.widen (k := LC - s.heap.size) (n := LS - jTot s.heap) (by omega) (by omega) ?_
      rw [hQ]
      exact W.iret (v := 7) hx hb hr (fun t ht hW => ⟨⟨7, G0, rfl, trivial, ⟨hh_20.ra (by first | omega | (simp only; omega)) (by first | omega | (simp only; omega)) (M1 := []) [] rfl ht, jNk.rf, by rw [ht]; exact hh_20.2.2.2.2.2.2.2.2.sub (L1 := [(jFs11, jSef dC dI G0)]) [0] rfl⟩⟩, by rw [ht]; try exact hh_20.1.1, fun q h9 hq => by rw [ht]; try exact hh_20.1.2.1 q h9 hq⟩) hh_20.1.2.2 dX5_leaveProof_22
end
