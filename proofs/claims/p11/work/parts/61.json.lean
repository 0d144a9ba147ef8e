def F6 (n : Nat) (G : jT) : List (Value → Prop) := [jRf G 140 1502, jRf G 141 1502, jRf G 142 1502, jRf G 143 1502, jRf G 144 1502, jRf G 145 1502, jRf G 146 3000, jI 0 1502, jI 0 3000, jRk G 100 3000, jI 0 3000, jI 0 20000]
theorem dX4_kindOf_0 : decode cX4_kindOf 0 = .ok (.iload_n 1, 1) := by decide +kernel
theorem dX4_kindOf_1 : decode cX4_kindOf 1 = .ok (.ifCond .lt 11, 3) := by decide +kernel
theorem dX4_kindOf_4 : decode cX4_kindOf 4 = .ok (.iload_n 1, 1) := by decide +kernel
theorem dX4_kindOf_5 : decode cX4_kindOf 5 = .ok (.aload_n 0, 1) := by decide +kernel
theorem dX4_kindOf_6 : decode cX4_kindOf 6 = .ok (.getfield 50, 3) := by decide +kernel
theorem dX4_kindOf_9 : decode cX4_kindOf 9 = .ok (.if_icmp .lt 7, 3) := by decide +kernel
theorem dX4_kindOf_12 : decode cX4_kindOf 12 = .ok (.iconst 0, 1) := by decide +kernel
theorem dX4_kindOf_13 : decode cX4_kindOf 13 = .ok (.goto 9, 3) := by decide +kernel
theorem dX4_kindOf_16 : decode cX4_kindOf 16 = .ok (.aload_n 0, 1) := by decide +kernel
theorem dX4_kindOf_17 : decode cX4_kindOf 17 = .ok (.getfield 11, 3) := by decide +kernel
theorem dX4_kindOf_20 : decode cX4_kindOf 20 = .ok (.iload_n 1, 1) := by decide +kernel
theorem dX4_kindOf_21 : decode cX4_kindOf 21 = .ok (.iaload, 1) := by decide +kernel
theorem dX4_kindOf_22 : decode cX4_kindOf 22 = .ok (.ireturn, 1) := by decide +kernel
theorem dX4_sizeOf_0 : decode cX4_sizeOf 0 = .ok (.iload_n 1, 1) := by decide +kernel
theorem dX4_sizeOf_1 : decode cX4_sizeOf 1 = .ok (.ifCond .lt 11, 3) := by decide +kernel
theorem dX4_sizeOf_4 : decode cX4_sizeOf 4 = .ok (.iload_n 1, 1) := by decide +kernel
theorem dX4_sizeOf_5 : decode cX4_sizeOf 5 = .ok (.aload_n 0, 1) := by decide +kernel
theorem dX4_sizeOf_6 : decode cX4_sizeOf 6 = .ok (.getfield 50, 3) := by decide +kernel
theorem dX4_sizeOf_9 : decode cX4_sizeOf 9 = .ok (.if_icmp .lt 7, 3) := by decide +kernel
theorem dX4_sizeOf_12 : decode cX4_sizeOf 12 = .ok (.iconst 0, 1) := by decide +kernel
theorem dX4_sizeOf_13 : decode cX4_sizeOf 13 = .ok (.goto 9, 3) := by decide +kernel
theorem dX4_sizeOf_16 : decode cX4_sizeOf 16 = .ok (.aload_n 0, 1) := by decide +kernel
theorem dX4_sizeOf_17 : decode cX4_sizeOf 17 = .ok (.getfield 18, 3) := by decide +kernel
theorem dX4_sizeOf_20 : decode cX4_sizeOf 20 = .ok (.iload_n 1, 1) := by decide +kernel
theorem dX4_sizeOf_21 : decode cX4_sizeOf 21 = .ok (.iaload, 1) := by decide +kernel
theorem dX4_sizeOf_22 : decode cX4_sizeOf 22 = .ok (.ireturn, 1) := by decide +kernel
theorem dX4_valueOf_0 : decode cX4_valueOf 0 = .ok (.iload_n 1, 1) := by decide +kernel
theorem dX4_valueOf_1 : decode cX4_valueOf 1 = .ok (.ifCond .lt 11, 3) := by decide +kernel
theorem dX4_valueOf_4 : decode cX4_valueOf 4 = .ok (.iload_n 1, 1) := by decide +kernel
theorem dX4_valueOf_5 : decode cX4_valueOf 5 = .ok (.aload_n 0, 1) := by decide +kernel
theorem dX4_valueOf_6 : decode cX4_valueOf 6 = .ok (.getfield 50, 3) := by decide +kernel
theorem dX4_valueOf_9 : decode cX4_valueOf 9 = .ok (.if_icmp .lt 7, 3) := by decide +kernel
theorem dX4_valueOf_12 : decode cX4_valueOf 12 = .ok (.iconst 0, 1) := by decide +kernel
theorem dX4_valueOf_13 : decode cX4_valueOf 13 = .ok (.goto 9, 3) := by decide +kernel
theorem dX4_valueOf_16 : decode cX4_valueOf 16 = .ok (.aload_n 0, 1) := by decide +kernel
theorem dX4_valueOf_17 : decode cX4_valueOf 17 = .ok (.getfield 15, 3) := by decide +kernel
theorem dX4_valueOf_20 : decode cX4_valueOf 20 = .ok (.iload_n 1, 1) := by decide +kernel
theorem dX4_valueOf_21 : decode cX4_valueOf 21 = .ok (.iaload, 1) := by decide +kernel
theorem dX4_valueOf_22 : decode cX4_valueOf 22 = .ok (.ireturn, 1) := by decide +kernel
theorem dX4_firstOf_0 : decode cX4_firstOf 0 = .ok (.iload_n 1, 1) := by decide +kernel
theorem dX4_firstOf_1 : decode cX4_firstOf 1 = .ok (.ifCond .lt 11, 3) := by decide +kernel
theorem dX4_firstOf_4 : decode cX4_firstOf 4 = .ok (.iload_n 1, 1) := by decide +kernel
theorem dX4_firstOf_5 : decode cX4_firstOf 5 = .ok (.aload_n 0, 1) := by decide +kernel
theorem dX4_firstOf_6 : decode cX4_firstOf 6 = .ok (.getfield 50, 3) := by decide +kernel
theorem dX4_firstOf_9 : decode cX4_firstOf 9 = .ok (.if_icmp .lt 7, 3) := by decide +kernel
theorem dX4_firstOf_12 : decode cX4_firstOf 12 = .ok (.iconst (-1), 1) := by decide +kernel
theorem dX4_firstOf_13 : decode cX4_firstOf 13 = .ok (.goto 9, 3) := by decide +kernel
theorem dX4_firstOf_16 : decode cX4_firstOf 16 = .ok (.aload_n 0, 1) := by decide +kernel
theorem dX4_firstOf_17 : decode cX4_firstOf 17 = .ok (.getfield 15, 3) := by decide +kernel
theorem dX4_firstOf_20 : decode cX4_firstOf 20 = .ok (.iload_n 1, 1) := by decide +kernel
theorem dX4_firstOf_21 : decode cX4_firstOf 21 = .ok (.iaload, 1) := by decide +kernel
theorem dX4_firstOf_22 : decode cX4_firstOf 22 = .ok (.ireturn, 1) := by decide +kernel
theorem dX4_nextOf_0 : decode cX4_nextOf 0 = .ok (.iload_n 1, 1) := by decide +kernel
theorem dX4_nextOf_1 : decode cX4_nextOf 1 = .ok (.ifCond .lt 11, 3) := by decide +kernel
theorem dX4_nextOf_4 : decode cX4_nextOf 4 = .ok (.iload_n 1, 1) := by decide +kernel
theorem dX4_nextOf_5 : decode cX4_nextOf 5 = .ok (.aload_n 0, 1) := by decide +kernel
theorem dX4_nextOf_6 : decode cX4_nextOf 6 = .ok (.getfield 50, 3) := by decide +kernel
theorem dX4_nextOf_9 : decode cX4_nextOf 9 = .ok (.if_icmp .lt 7, 3) := by decide +kernel
theorem dX4_nextOf_12 : decode cX4_nextOf 12 = .ok (.iconst (-1), 1) := by decide +kernel
theorem dX4_nextOf_13 : decode cX4_nextOf 13 = .ok (.goto 9, 3) := by decide +kernel
theorem dX4_nextOf_16 : decode cX4_nextOf 16 = .ok (.aload_n 0, 1) := by decide +kernel
theorem dX4_nextOf_17 : decode cX4_nextOf 17 = .ok (.getfield 21, 3) := by decide +kernel
theorem dX4_nextOf_20 : decode cX4_nextOf 20 = .ok (.iload_n 1, 1) := by decide +kernel
theorem dX4_nextOf_21 : decode cX4_nextOf 21 = .ok (.iaload, 1) := by decide +kernel
theorem dX4_nextOf_22 : decode cX4_nextOf 22 = .ok (.ireturn, 1) := by decide +kernel
theorem dX4_member_0 : decode cX4_member 0 = .ok (.aload_n 0, 1) := by decide +kernel
theorem dX4_member_1 : decode cX4_member 1 = .ok (.iload_n 1, 1) := by decide +kernel
theorem dX4_member_2 : decode cX4_member 2 = .ok (.invokevirtual 63, 3) := by decide +kernel
theorem dX4_member_5 : decode cX4_member 5 = .ok (.iconst 1, 1) := by decide +kernel
theorem dX4_member_6 : decode cX4_member 6 = .ok (.if_icmp .eq 5, 3) := by decide +kernel
theorem dX4_member_9 : decode cX4_member 9 = .ok (.iconst (-1), 1) := by decide +kernel
theorem dX4_member_10 : decode cX4_member 10 = .ok (.ireturn, 1) := by decide +kernel
theorem dX4_member_11 : decode cX4_member 11 = .ok (.iconst (-1), 1) := by decide +kernel
theorem dX4_member_12 : decode cX4_member 12 = .ok (.istore_n 3, 1) := by decide +kernel
theorem dX4_member_13 : decode cX4_member 13 = .ok (.aload_n 0, 1) := by decide +kernel
theorem dX4_member_14 : decode cX4_member 14 = .ok (.getfield 15, 3) := by decide +kernel
theorem dX4_member_17 : decode cX4_member 17 = .ok (.iload_n 1, 1) := by decide +kernel
theorem dX4_member_18 : decode cX4_member 18 = .ok (.iaload, 1) := by decide +kernel
theorem dX4_member_19 : decode cX4_member 19 = .ok (.istore 4, 2) := by decide +kernel
theorem dX4_member_21 : decode cX4_member 21 = .ok (.iconst 0, 1) := by decide +kernel
theorem dX4_member_22 : decode cX4_member 22 = .ok (.istore 5, 2) := by decide +kernel
theorem dX4_member_24 : decode cX4_member 24 = .ok (.iload 5, 2) := by decide +kernel
theorem dX4_member_26 : decode cX4_member 26 = .ok (.aload_n 0, 1) := by decide +kernel
theorem dX4_member_27 : decode cX4_member 27 = .ok (.getfield 18, 3) := by decide +kernel
theorem dX4_member_30 : decode cX4_member 30 = .ok (.iload_n 1, 1) := by decide +kernel
theorem dX4_member_31 : decode cX4_member 31 = .ok (.iaload, 1) := by decide +kernel
theorem dX4_member_32 : decode cX4_member 32 = .ok (.if_icmp .ge 57, 3) := by decide +kernel
theorem dX4_member_35 : decode cX4_member 35 = .ok (.iload 4, 2) := by decide +kernel
theorem dX4_member_37 : decode cX4_member 37 = .ok (.ifCond .lt 52, 3) := by decide +kernel
theorem dX4_member_40 : decode cX4_member 40 = .ok (.iload 4, 2) := by decide +kernel
theorem dX4_member_42 : decode cX4_member 42 = .ok (.aload_n 0, 1) := by decide +kernel
theorem dX4_member_43 : decode cX4_member 43 = .ok (.getfield 50, 3) := by decide +kernel
theorem dX4_member_46 : decode cX4_member 46 = .ok (.if_icmp .ge 43, 3) := by decide +kernel
theorem dX4_member_49 : decode cX4_member 49 = .ok (.aload_n 0, 1) := by decide +kernel
theorem dX4_member_50 : decode cX4_member 50 = .ok (.aload_n 0, 1) := by decide +kernel
theorem dX4_member_51 : decode cX4_member 51 = .ok (.getfield 24, 3) := by decide +kernel
theorem dX4_member_54 : decode cX4_member 54 = .ok (.iload 4, 2) := by decide +kernel
theorem dX4_member_56 : decode cX4_member 56 = .ok (.iaload, 1) := by decide +kernel
theorem dX4_member_57 : decode cX4_member 57 = .ok (.aload_n 0, 1) := by decide +kernel
theorem dX4_member_58 : decode cX4_member 58 = .ok (.getfield 27, 3) := by decide +kernel
theorem dX4_member_61 : decode cX4_member 61 = .ok (.iload 4, 2) := by decide +kernel
theorem dX4_member_63 : decode cX4_member 63 = .ok (.iaload, 1) := by decide +kernel
theorem dX4_member_64 : decode cX4_member 64 = .ok (.aload_n 2, 1) := by decide +kernel
theorem dX4_member_65 : decode cX4_member 65 = .ok (.invokevirtual 66, 3) := by decide +kernel
theorem dX4_member_68 : decode cX4_member 68 = .ok (.ifCond .eq 6, 3) := by decide +kernel
theorem dX4_member_71 : decode cX4_member 71 = .ok (.iload 4, 2) := by decide +kernel
theorem dX4_member_73 : decode cX4_member 73 = .ok (.istore_n 3, 1) := by decide +kernel
theorem dX4_member_74 : decode cX4_member 74 = .ok (.aload_n 0, 1) := by decide +kernel
theorem dX4_member_75 : decode cX4_member 75 = .ok (.getfield 21, 3) := by decide +kernel
theorem dX4_member_78 : decode cX4_member 78 = .ok (.iload 4, 2) := by decide +kernel
theorem dX4_member_80 : decode cX4_member 80 = .ok (.iaload, 1) := by decide +kernel
theorem dX4_member_81 : decode cX4_member 81 = .ok (.istore 4, 2) := by decide +kernel
theorem dX4_member_83 : decode cX4_member 83 = .ok (.iinc 5 1, 3) := by decide +kernel
theorem dX4_member_86 : decode cX4_member 86 = .ok (.goto (-62), 3) := by decide +kernel
theorem dX4_member_89 : decode cX4_member 89 = .ok (.iload_n 3, 1) := by decide +kernel
theorem dX4_member_90 : decode cX4_member 90 = .ok (.ireturn, 1) := by decide +kernel
theorem dX4_areUnits_0 : decode cX4_areUnits 0 = .ok (.iload_n 2, 1) := by decide +kernel
theorem dX4_areUnits_1 : decode cX4_areUnits 1 = .ok (.aload_n 3, 1) := by decide +kernel
theorem dX4_areUnits_2 : decode cX4_areUnits 2 = .ok (.invokevirtual 70, 3) := by decide +kernel
theorem dX4_areUnits_5 : decode cX4_areUnits 5 = .ok (.if_icmp .ne 18, 3) := by decide +kernel
theorem dX4_areUnits_8 : decode cX4_areUnits 8 = .ok (.iload_n 1, 1) := by decide +kernel
theorem dX4_areUnits_9 : decode cX4_areUnits 9 = .ok (.ifCond .lt 14, 3) := by decide +kernel
theorem dX4_areUnits_12 : decode cX4_areUnits 12 = .ok (.iload_n 1, 1) := by decide +kernel
theorem dX4_areUnits_13 : decode cX4_areUnits 13 = .ok (.iload_n 2, 1) := by decide +kernel
theorem dX4_areUnits_14 : decode cX4_areUnits 14 = .ok (.iadd, 1) := by decide +kernel
theorem dX4_areUnits_15 : decode cX4_areUnits 15 = .ok (.aload_n 0, 1) := by decide +kernel
theorem dX4_areUnits_16 : decode cX4_areUnits 16 = .ok (.getfield 30, 3) := by decide +kernel
theorem dX4_areUnits_19 : decode cX4_areUnits 19 = .ok (.arraylength, 1) := by decide +kernel
theorem dX4_areUnits_20 : decode cX4_areUnits 20 = .ok (.if_icmp .le 5, 3) := by decide +kernel
theorem dX4_areUnits_23 : decode cX4_areUnits 23 = .ok (.iconst 0, 1) := by decide +kernel
theorem dX4_areUnits_24 : decode cX4_areUnits 24 = .ok (.ireturn, 1) := by decide +kernel
theorem dX4_areUnits_25 : decode cX4_areUnits 25 = .ok (.iconst 0, 1) := by decide +kernel
theorem dX4_areUnits_26 : decode cX4_areUnits 26 = .ok (.istore 4, 2) := by decide +kernel
theorem dX4_areUnits_28 : decode cX4_areUnits 28 = .ok (.iload 4, 2) := by decide +kernel
theorem dX4_areUnits_30 : decode cX4_areUnits 30 = .ok (.iload_n 2, 1) := by decide +kernel
theorem dX4_areUnits_31 : decode cX4_areUnits 31 = .ok (.if_icmp .ge 29, 3) := by decide +kernel
theorem dX4_areUnits_34 : decode cX4_areUnits 34 = .ok (.aload_n 0, 1) := by decide +kernel
theorem dX4_areUnits_35 : decode cX4_areUnits 35 = .ok (.getfield 30, 3) := by decide +kernel
theorem dX4_areUnits_38 : decode cX4_areUnits 38 = .ok (.iload_n 1, 1) := by decide +kernel
theorem dX4_areUnits_39 : decode cX4_areUnits 39 = .ok (.iload 4, 2) := by decide +kernel
theorem dX4_areUnits_41 : decode cX4_areUnits 41 = .ok (.iadd, 1) := by decide +kernel
theorem dX4_areUnits_42 : decode cX4_areUnits 42 = .ok (.iaload, 1) := by decide +kernel
theorem dX4_areUnits_43 : decode cX4_areUnits 43 = .ok (.aload_n 3, 1) := by decide +kernel
theorem dX4_areUnits_44 : decode cX4_areUnits 44 = .ok (.iload 4, 2) := by decide +kernel
theorem dX4_areUnits_46 : decode cX4_areUnits 46 = .ok (.invokevirtual 76, 3) := by decide +kernel
theorem dX4_areUnits_49 : decode cX4_areUnits 49 = .ok (.if_icmp .eq 5, 3) := by decide +kernel
theorem dX4_areUnits_52 : decode cX4_areUnits 52 = .ok (.iconst 0, 1) := by decide +kernel
theorem dX4_areUnits_53 : decode cX4_areUnits 53 = .ok (.ireturn, 1) := by decide +kernel
theorem dX4_areUnits_54 : decode cX4_areUnits 54 = .ok (.iinc 4 1, 3) := by decide +kernel
theorem dX4_areUnits_57 : decode cX4_areUnits 57 = .ok (.goto (-29), 3) := by decide +kernel
theorem dX4_areUnits_60 : decode cX4_areUnits 60 = .ok (.iconst 1, 1) := by decide +kernel
theorem dX4_areUnits_61 : decode cX4_areUnits 61 = .ok (.ireturn, 1) := by decide +kernel
theorem dX4_isUnits_0 : decode cX4_isUnits 0 = .ok (.aload_n 0, 1) := by decide +kernel
theorem dX4_isUnits_1 : decode cX4_isUnits 1 = .ok (.iload_n 1, 1) := by decide +kernel
theorem dX4_isUnits_2 : decode cX4_isUnits 2 = .ok (.invokevirtual 63, 3) := by decide +kernel
theorem dX4_isUnits_5 : decode cX4_isUnits 5 = .ok (.iconst 3, 1) := by decide +kernel
theorem dX4_isUnits_6 : decode cX4_isUnits 6 = .ok (.if_icmp .ne 14, 3) := by decide +kernel
theorem dX4_isUnits_9 : decode cX4_isUnits 9 = .ok (.aload_n 0, 1) := by decide +kernel
theorem dX4_isUnits_10 : decode cX4_isUnits 10 = .ok (.getfield 18, 3) := by decide +kernel
theorem dX4_isUnits_13 : decode cX4_isUnits 13 = .ok (.iload_n 1, 1) := by decide +kernel
theorem dX4_isUnits_14 : decode cX4_isUnits 14 = .ok (.iaload, 1) := by decide +kernel
theorem dX4_isUnits_15 : decode cX4_isUnits 15 = .ok (.aload_n 2, 1) := by decide +kernel
theorem dX4_isUnits_16 : decode cX4_isUnits 16 = .ok (.arraylength, 1) := by decide +kernel
theorem dX4_isUnits_17 : decode cX4_isUnits 17 = .ok (.if_icmp .eq 5, 3) := by decide +kernel
theorem dX4_isUnits_20 : decode cX4_isUnits 20 = .ok (.iconst 0, 1) := by decide +kernel
theorem dX4_isUnits_21 : decode cX4_isUnits 21 = .ok (.ireturn, 1) := by decide +kernel
theorem dX4_isUnits_22 : decode cX4_isUnits 22 = .ok (.iconst 0, 1) := by decide +kernel
theorem dX4_isUnits_23 : decode cX4_isUnits 23 = .ok (.istore_n 3, 1) := by decide +kernel
theorem dX4_isUnits_24 : decode cX4_isUnits 24 = .ok (.iload_n 3, 1) := by decide +kernel
theorem dX4_isUnits_25 : decode cX4_isUnits 25 = .ok (.aload_n 2, 1) := by decide +kernel
theorem dX4_isUnits_26 : decode cX4_isUnits 26 = .ok (.arraylength, 1) := by decide +kernel
theorem dX4_isUnits_27 : decode cX4_isUnits 27 = .ok (.if_icmp .ge 23, 3) := by decide +kernel
theorem dX4_isUnits_30 : decode cX4_isUnits 30 = .ok (.aload_n 0, 1) := by decide +kernel
theorem dX4_isUnits_31 : decode cX4_isUnits 31 = .ok (.iload_n 1, 1) := by decide +kernel
theorem dX4_isUnits_32 : decode cX4_isUnits 32 = .ok (.iload_n 3, 1) := by decide +kernel
theorem dX4_isUnits_33 : decode cX4_isUnits 33 = .ok (.invokevirtual 80, 3) := by decide +kernel
theorem dX4_isUnits_36 : decode cX4_isUnits 36 = .ok (.aload_n 2, 1) := by decide +kernel
theorem dX4_isUnits_37 : decode cX4_isUnits 37 = .ok (.iload_n 3, 1) := by decide +kernel
theorem dX4_isUnits_38 : decode cX4_isUnits 38 = .ok (.iaload, 1) := by decide +kernel
theorem dX4_isUnits_39 : decode cX4_isUnits 39 = .ok (.if_icmp .eq 5, 3) := by decide +kernel
theorem dX4_isUnits_42 : decode cX4_isUnits 42 = .ok (.iconst 0, 1) := by decide +kernel
theorem dX4_isUnits_43 : decode cX4_isUnits 43 = .ok (.ireturn, 1) := by decide +kernel
theorem dX4_isUnits_44 : decode cX4_isUnits 44 = .ok (.iinc 3 1, 3) := by decide +kernel
theorem dX4_isUnits_47 : decode cX4_isUnits 47 = .ok (.goto (-23), 3) := by decide +kernel
theorem dX4_isUnits_50 : decode cX4_isUnits 50 = .ok (.iconst 1, 1) := by decide +kernel
theorem dX4_isUnits_51 : decode cX4_isUnits 51 = .ok (.ireturn, 1) := by decide +kernel
theorem dX4_unitAt_0 : decode cX4_unitAt 0 = .ok (.aload_n 0, 1) := by decide +kernel
theorem dX4_unitAt_1 : decode cX4_unitAt 1 = .ok (.iload_n 1, 1) := by decide +kernel
theorem dX4_unitAt_2 : decode cX4_unitAt 2 = .ok (.invokevirtual 63, 3) := by decide +kernel
theorem dX4_unitAt_5 : decode cX4_unitAt 5 = .ok (.iconst 3, 1) := by decide +kernel
theorem dX4_unitAt_6 : decode cX4_unitAt 6 = .ok (.if_icmp .ne 14, 3) := by decide +kernel
theorem dX4_unitAt_9 : decode cX4_unitAt 9 = .ok (.aload_n 0, 1) := by decide +kernel
theorem dX4_unitAt_10 : decode cX4_unitAt 10 = .ok (.getfield 15, 3) := by decide +kernel
theorem dX4_unitAt_13 : decode cX4_unitAt 13 = .ok (.iload_n 1, 1) := by decide +kernel
theorem dX4_unitAt_14 : decode cX4_unitAt 14 = .ok (.iaload, 1) := by decide +kernel
theorem dX4_unitAt_15 : decode cX4_unitAt 15 = .ok (.iload_n 2, 1) := by decide +kernel
theorem dX4_unitAt_16 : decode cX4_unitAt 16 = .ok (.iadd, 1) := by decide +kernel
theorem dX4_unitAt_17 : decode cX4_unitAt 17 = .ok (.goto 4, 3) := by decide +kernel
theorem dX4_unitAt_20 : decode cX4_unitAt 20 = .ok (.iconst (-1), 1) := by decide +kernel
theorem dX4_unitAt_21 : decode cX4_unitAt 21 = .ok (.istore_n 3, 1) := by decide +kernel
theorem dX4_unitAt_22 : decode cX4_unitAt 22 = .ok (.iload_n 2, 1) := by decide +kernel
theorem dX4_unitAt_23 : decode cX4_unitAt 23 = .ok (.ifCond .lt 25, 3) := by decide +kernel
theorem dX4_unitAt_26 : decode cX4_unitAt 26 = .ok (.iload_n 2, 1) := by decide +kernel
theorem dX4_unitAt_27 : decode cX4_unitAt 27 = .ok (.aload_n 0, 1) := by decide +kernel
theorem dX4_unitAt_28 : decode cX4_unitAt 28 = .ok (.iload_n 1, 1) := by decide +kernel
theorem dX4_unitAt_29 : decode cX4_unitAt 29 = .ok (.invokevirtual 83, 3) := by decide +kernel
theorem dX4_unitAt_32 : decode cX4_unitAt 32 = .ok (.if_icmp .ge 16, 3) := by decide +kernel
theorem dX4_unitAt_35 : decode cX4_unitAt 35 = .ok (.iload_n 3, 1) := by decide +kernel
theorem dX4_unitAt_36 : decode cX4_unitAt 36 = .ok (.ifCond .lt 12, 3) := by decide +kernel
theorem dX4_unitAt_39 : decode cX4_unitAt 39 = .ok (.iload_n 3, 1) := by decide +kernel
theorem dX4_unitAt_40 : decode cX4_unitAt 40 = .ok (.aload_n 0, 1) := by decide +kernel
theorem dX4_unitAt_41 : decode cX4_unitAt 41 = .ok (.getfield 30, 3) := by decide +kernel
theorem dX4_unitAt_44 : decode cX4_unitAt 44 = .ok (.arraylength, 1) := by decide +kernel
theorem dX4_unitAt_45 : decode cX4_unitAt 45 = .ok (.if_icmp .lt 7, 3) := by decide +kernel
theorem dX4_unitAt_48 : decode cX4_unitAt 48 = .ok (.iconst 0, 1) := by decide +kernel
theorem dX4_unitAt_49 : decode cX4_unitAt 49 = .ok (.goto 9, 3) := by decide +kernel
theorem dX4_unitAt_52 : decode cX4_unitAt 52 = .ok (.aload_n 0, 1) := by decide +kernel
theorem dX4_unitAt_53 : decode cX4_unitAt 53 = .ok (.getfield 30, 3) := by decide +kernel
theorem dX4_unitAt_56 : decode cX4_unitAt 56 = .ok (.iload_n 3, 1) := by decide +kernel
theorem dX4_unitAt_57 : decode cX4_unitAt 57 = .ok (.iaload, 1) := by decide +kernel
theorem dX4_unitAt_58 : decode cX4_unitAt 58 = .ok (.ireturn, 1) := by decide +kernel
theorem dX4_peek_0 : decode cX4_peek 0 = .ok (.aload_n 0, 1) := by decide +kernel
theorem dX4_peek_1 : decode cX4_peek 1 = .ok (.getfield 47, 3) := by decide +kernel
theorem dX4_peek_4 : decode cX4_peek 4 = .ok (.ifCond .lt 30, 3) := by decide +kernel
theorem dX4_peek_7 : decode cX4_peek 7 = .ok (.aload_n 0, 1) := by decide +kernel
theorem dX4_peek_8 : decode cX4_peek 8 = .ok (.getfield 47, 3) := by decide +kernel
theorem dX4_peek_11 : decode cX4_peek 11 = .ok (.aload_n 0, 1) := by decide +kernel
theorem dX4_peek_12 : decode cX4_peek 12 = .ok (.getfield 43, 3) := by decide +kernel
theorem dX4_peek_15 : decode cX4_peek 15 = .ok (.if_icmp .ge 19, 3) := by decide +kernel
theorem dX4_peek_18 : decode cX4_peek 18 = .ok (.aload_n 0, 1) := by decide +kernel
theorem dX4_peek_19 : decode cX4_peek 19 = .ok (.getfield 33, 3) := by decide +kernel
theorem dX4_peek_22 : decode cX4_peek 22 = .ok (.aload_n 0, 1) := by decide +kernel
theorem dX4_peek_23 : decode cX4_peek 23 = .ok (.getfield 47, 3) := by decide +kernel
theorem dX4_peek_26 : decode cX4_peek 26 = .ok (.baload, 1) := by decide +kernel
theorem dX4_peek_27 : decode cX4_peek 27 = .ok (.sipush 255, 3) := by decide +kernel
theorem dX4_peek_30 : decode cX4_peek 30 = .ok (.iand, 1) := by decide +kernel
theorem dX4_peek_31 : decode cX4_peek 31 = .ok (.goto 4, 3) := by decide +kernel
theorem dX4_peek_34 : decode cX4_peek 34 = .ok (.iconst (-1), 1) := by decide +kernel
theorem dX4_peek_35 : decode cX4_peek 35 = .ok (.ireturn, 1) := by decide +kernel
theorem dX4_skipBlanks_0 : decode cX4_skipBlanks 0 = .ok (.aload_n 0, 1) := by decide +kernel
theorem dX4_skipBlanks_1 : decode cX4_skipBlanks 1 = .ok (.getfield 47, 3) := by decide +kernel
theorem dX4_skipBlanks_4 : decode cX4_skipBlanks 4 = .ok (.aload_n 0, 1) := by decide +kernel
theorem dX4_skipBlanks_5 : decode cX4_skipBlanks 5 = .ok (.getfield 43, 3) := by decide +kernel
theorem dX4_skipBlanks_8 : decode cX4_skipBlanks 8 = .ok (.if_icmp .ge 26, 3) := by decide +kernel
theorem dX4_skipBlanks_11 : decode cX4_skipBlanks 11 = .ok (.aload_n 0, 1) := by decide +kernel
theorem dX4_skipBlanks_12 : decode cX4_skipBlanks 12 = .ok (.invokevirtual 89, 3) := by decide +kernel
theorem dX4_skipBlanks_15 : decode cX4_skipBlanks 15 = .ok (.invokestatic 92, 3) := by decide +kernel
theorem dX4_skipBlanks_18 : decode cX4_skipBlanks 18 = .ok (.ifCond .eq 16, 3) := by decide +kernel
theorem dX4_skipBlanks_21 : decode cX4_skipBlanks 21 = .ok (.aload_n 0, 1) := by decide +kernel
theorem dX4_skipBlanks_22 : decode cX4_skipBlanks 22 = .ok (.dup, 1) := by decide +kernel
theorem dX4_skipBlanks_23 : decode cX4_skipBlanks 23 = .ok (.getfield 47, 3) := by decide +kernel
theorem dX4_skipBlanks_26 : decode cX4_skipBlanks 26 = .ok (.iconst 1, 1) := by decide +kernel
theorem dX4_skipBlanks_27 : decode cX4_skipBlanks 27 = .ok (.iadd, 1) := by decide +kernel
theorem dX4_skipBlanks_28 : decode cX4_skipBlanks 28 = .ok (.putfield 47, 3) := by decide +kernel
theorem dX4_skipBlanks_31 : decode cX4_skipBlanks 31 = .ok (.goto (-31), 3) := by decide +kernel
theorem dX4_skipBlanks_34 : decode cX4_skipBlanks 34 = .ok (.return_, 1) := by decide +kernel
theorem dX4_make_0 : decode cX4_make 0 = .ok (.aload_n 0, 1) := by decide +kernel
theorem dX4_make_1 : decode cX4_make 1 = .ok (.getfield 50, 3) := by decide +kernel
theorem dX4_make_4 : decode cX4_make 4 = .ok (.sipush 1502, 3) := by decide +kernel
theorem dX4_make_7 : decode cX4_make 7 = .ok (.if_icmp .lt 5, 3) := by decide +kernel
theorem dX4_make_10 : decode cX4_make 10 = .ok (.iconst (-1), 1) := by decide +kernel
theorem dX4_make_11 : decode cX4_make 11 = .ok (.ireturn, 1) := by decide +kernel
theorem dX4_make_12 : decode cX4_make 12 = .ok (.aload_n 0, 1) := by decide +kernel
theorem dX4_make_13 : decode cX4_make 13 = .ok (.getfield 11, 3) := by decide +kernel
theorem dX4_make_16 : decode cX4_make 16 = .ok (.aload_n 0, 1) := by decide +kernel
theorem dX4_make_17 : decode cX4_make 17 = .ok (.getfield 50, 3) := by decide +kernel
theorem dX4_make_20 : decode cX4_make 20 = .ok (.iload_n 1, 1) := by decide +kernel
theorem dX4_make_21 : decode cX4_make 21 = .ok (.iastore, 1) := by decide +kernel
theorem dX4_make_22 : decode cX4_make 22 = .ok (.aload_n 0, 1) := by decide +kernel
theorem dX4_make_23 : decode cX4_make 23 = .ok (.getfield 15, 3) := by decide +kernel
theorem dX4_make_26 : decode cX4_make 26 = .ok (.aload_n 0, 1) := by decide +kernel
theorem dX4_make_27 : decode cX4_make 27 = .ok (.getfield 50, 3) := by decide +kernel
theorem dX4_make_30 : decode cX4_make 30 = .ok (.iload_n 2, 1) := by decide +kernel
theorem dX4_make_31 : decode cX4_make 31 = .ok (.iastore, 1) := by decide +kernel
theorem dX4_make_32 : decode cX4_make 32 = .ok (.aload_n 0, 1) := by decide +kernel
theorem dX4_make_33 : decode cX4_make 33 = .ok (.getfield 18, 3) := by decide +kernel
theorem dX4_make_36 : decode cX4_make 36 = .ok (.aload_n 0, 1) := by decide +kernel
theorem dX4_make_37 : decode cX4_make 37 = .ok (.getfield 50, 3) := by decide +kernel
theorem dX4_make_40 : decode cX4_make 40 = .ok (.iload_n 3, 1) := by decide +kernel
theorem dX4_make_41 : decode cX4_make 41 = .ok (.iastore, 1) := by decide +kernel
theorem dX4_make_42 : decode cX4_make 42 = .ok (.aload_n 0, 1) := by decide +kernel
theorem dX4_make_43 : decode cX4_make 43 = .ok (.getfield 21, 3) := by decide +kernel
theorem dX4_make_46 : decode cX4_make 46 = .ok (.aload_n 0, 1) := by decide +kernel
theorem dX4_make_47 : decode cX4_make 47 = .ok (.getfield 50, 3) := by decide +kernel
theorem dX4_make_50 : decode cX4_make 50 = .ok (.iconst (-1), 1) := by decide +kernel
theorem dX4_make_51 : decode cX4_make 51 = .ok (.iastore, 1) := by decide +kernel
theorem dX4_make_52 : decode cX4_make 52 = .ok (.aload_n 0, 1) := by decide +kernel
theorem dX4_make_53 : decode cX4_make 53 = .ok (.getfield 24, 3) := by decide +kernel
theorem dX4_make_56 : decode cX4_make 56 = .ok (.aload_n 0, 1) := by decide +kernel
theorem dX4_make_57 : decode cX4_make 57 = .ok (.getfield 50, 3) := by decide +kernel
theorem dX4_make_60 : decode cX4_make 60 = .ok (.iconst 0, 1) := by decide +kernel
theorem dX4_make_61 : decode cX4_make 61 = .ok (.iastore, 1) := by decide +kernel
theorem dX4_make_62 : decode cX4_make 62 = .ok (.aload_n 0, 1) := by decide +kernel
theorem dX4_make_63 : decode cX4_make 63 = .ok (.getfield 27, 3) := by decide +kernel
theorem dX4_make_66 : decode cX4_make 66 = .ok (.aload_n 0, 1) := by decide +kernel
theorem dX4_make_67 : decode cX4_make 67 = .ok (.getfield 50, 3) := by decide +kernel
theorem dX4_make_70 : decode cX4_make 70 = .ok (.iconst 0, 1) := by decide +kernel
theorem dX4_make_71 : decode cX4_make 71 = .ok (.iastore, 1) := by decide +kernel
theorem dX4_make_72 : decode cX4_make 72 = .ok (.aload_n 0, 1) := by decide +kernel
theorem dX4_make_73 : decode cX4_make 73 = .ok (.dup, 1) := by decide +kernel
theorem dX4_make_74 : decode cX4_make 74 = .ok (.getfield 50, 3) := by decide +kernel
theorem dX4_make_77 : decode cX4_make 77 = .ok (.iconst 1, 1) := by decide +kernel
theorem dX4_make_78 : decode cX4_make 78 = .ok (.iadd, 1) := by decide +kernel
theorem dX4_make_79 : decode cX4_make 79 = .ok (.putfield 50, 3) := by decide +kernel
theorem dX4_make_82 : decode cX4_make 82 = .ok (.aload_n 0, 1) := by decide +kernel
theorem dX4_make_83 : decode cX4_make 83 = .ok (.getfield 50, 3) := by decide +kernel
theorem dX4_make_86 : decode cX4_make 86 = .ok (.iconst 1, 1) := by decide +kernel
theorem dX4_make_87 : decode cX4_make 87 = .ok (.isub, 1) := by decide +kernel
theorem dX4_make_88 : decode cX4_make 88 = .ok (.ireturn, 1) := by decide +kernel
theorem dX4_addChar_0 : decode cX4_addChar 0 = .ok (.iload_n 1, 1) := by decide +kernel
theorem dX4_addChar_1 : decode cX4_addChar 1 = .ok (.ldc 161, 2) := by decide +kernel
theorem dX4_addChar_3 : decode cX4_addChar 3 = .ok (.if_icmp .lt 35, 3) := by decide +kernel
theorem dX4_addChar_6 : decode cX4_addChar 6 = .ok (.aload_n 0, 1) := by decide +kernel
theorem dX4_addChar_7 : decode cX4_addChar 7 = .ok (.ldc 162, 2) := by decide +kernel
theorem dX4_addChar_9 : decode cX4_addChar 9 = .ok (.iload_n 1, 1) := by decide +kernel
theorem dX4_addChar_10 : decode cX4_addChar 10 = .ok (.ldc 161, 2) := by decide +kernel
theorem dX4_addChar_12 : decode cX4_addChar 12 = .ok (.isub, 1) := by decide +kernel
theorem dX4_addChar_13 : decode cX4_addChar 13 = .ok (.bipush 10, 2) := by decide +kernel
theorem dX4_addChar_15 : decode cX4_addChar 15 = .ok (.ishr, 1) := by decide +kernel
theorem dX4_addChar_16 : decode cX4_addChar 16 = .ok (.iadd, 1) := by decide +kernel
theorem dX4_addChar_17 : decode cX4_addChar 17 = .ok (.invokevirtual 163, 3) := by decide +kernel
theorem dX4_addChar_20 : decode cX4_addChar 20 = .ok (.aload_n 0, 1) := by decide +kernel
theorem dX4_addChar_21 : decode cX4_addChar 21 = .ok (.ldc 166, 2) := by decide +kernel
theorem dX4_addChar_23 : decode cX4_addChar 23 = .ok (.iload_n 1, 1) := by decide +kernel
theorem dX4_addChar_24 : decode cX4_addChar 24 = .ok (.ldc 161, 2) := by decide +kernel
theorem dX4_addChar_26 : decode cX4_addChar 26 = .ok (.isub, 1) := by decide +kernel
theorem dX4_addChar_27 : decode cX4_addChar 27 = .ok (.sipush 1023, 3) := by decide +kernel
theorem dX4_addChar_30 : decode cX4_addChar 30 = .ok (.iand, 1) := by decide +kernel
theorem dX4_addChar_31 : decode cX4_addChar 31 = .ok (.iadd, 1) := by decide +kernel
theorem dX4_addChar_32 : decode cX4_addChar 32 = .ok (.invokevirtual 163, 3) := by decide +kernel
theorem dX4_addChar_35 : decode cX4_addChar 35 = .ok (.goto 8, 3) := by decide +kernel
theorem dX4_addChar_38 : decode cX4_addChar 38 = .ok (.aload_n 0, 1) := by decide +kernel
theorem dX4_addChar_39 : decode cX4_addChar 39 = .ok (.iload_n 1, 1) := by decide +kernel
theorem dX4_addChar_40 : decode cX4_addChar 40 = .ok (.invokevirtual 163, 3) := by decide +kernel
theorem dX4_addChar_43 : decode cX4_addChar 43 = .ok (.return_, 1) := by decide +kernel
theorem dX4_addUnit_0 : decode cX4_addUnit 0 = .ok (.aload_n 0, 1) := by decide +kernel
theorem dX4_addUnit_1 : decode cX4_addUnit 1 = .ok (.getfield 53, 3) := by decide +kernel
theorem dX4_addUnit_4 : decode cX4_addUnit 4 = .ok (.aload_n 0, 1) := by decide +kernel
theorem dX4_addUnit_5 : decode cX4_addUnit 5 = .ok (.getfield 30, 3) := by decide +kernel
theorem dX4_addUnit_8 : decode cX4_addUnit 8 = .ok (.arraylength, 1) := by decide +kernel
theorem dX4_addUnit_9 : decode cX4_addUnit 9 = .ok (.if_icmp .ge 23, 3) := by decide +kernel
theorem dX4_addUnit_12 : decode cX4_addUnit 12 = .ok (.aload_n 0, 1) := by decide +kernel
theorem dX4_addUnit_13 : decode cX4_addUnit 13 = .ok (.getfield 30, 3) := by decide +kernel
theorem dX4_addUnit_16 : decode cX4_addUnit 16 = .ok (.aload_n 0, 1) := by decide +kernel
theorem dX4_addUnit_17 : decode cX4_addUnit 17 = .ok (.getfield 53, 3) := by decide +kernel
theorem dX4_addUnit_20 : decode cX4_addUnit 20 = .ok (.iload_n 1, 1) := by decide +kernel
theorem dX4_addUnit_21 : decode cX4_addUnit 21 = .ok (.iastore, 1) := by decide +kernel
theorem dX4_addUnit_22 : decode cX4_addUnit 22 = .ok (.aload_n 0, 1) := by decide +kernel
theorem dX4_addUnit_23 : decode cX4_addUnit 23 = .ok (.dup, 1) := by decide +kernel
theorem dX4_addUnit_24 : decode cX4_addUnit 24 = .ok (.getfield 53, 3) := by decide +kernel
theorem dX4_addUnit_27 : decode cX4_addUnit 27 = .ok (.iconst 1, 1) := by decide +kernel
theorem dX4_addUnit_28 : decode cX4_addUnit 28 = .ok (.iadd, 1) := by decide +kernel
theorem dX4_addUnit_29 : decode cX4_addUnit 29 = .ok (.putfield 53, 3) := by decide +kernel
theorem dX4_addUnit_32 : decode cX4_addUnit 32 = .ok (.return_, 1) := by decide +kernel
def EX0_decoded : List (Nat × Nat) := []
def EX4_peek : List (Nat × Nat) := []
def EX4_skipBlanks : List (Nat × Nat) := [(6, 11)]
def EX4_kindOf : List (Nat × Nat) := []
def EX4_sizeOf : List (Nat × Nat) := []
def EX4_valueOf : List (Nat × Nat) := []
def EX4_firstOf : List (Nat × Nat) := []
def EX4_nextOf : List (Nat × Nat) := []
def EX4_areUnits : List (Nat × Nat) := []
def EX4_member : List (Nat × Nat) := []
def EX4_unitAt : List (Nat × Nat) := []
def EX4_isUnits : List (Nat × Nat) := []
def EX4_make : List (Nat × Nat) := [(6, 7), (140, 0), (141, 0), (142, 0), (143, 0), (144, 0), (145, 0)]
def EX4_addUnit : List (Nat × Nat) := [(6, 8), (146, 0)]
def EX4_addChar : List (Nat × Nat) := [(6, 8), (146, 0)]
set_option maxHeartbeats 4000000 in
set_option maxRecDepth 20000 in
theorem uX0_decoded (l : Launch) (dC : Nat → ClassId) (dI : Nat → Nat → Nat) (ca : Nat → ClassId) (base : Nat) (B : jF) (hB : jBok B) (hAp : jAp (dC, dI)) (hB100 : ∀ n G a H, B 100 n G a H ↔ jAr (dC, dI) (ca 0) (fun j z => True) n a H) (G0 : jT) (H0 : Heap) (r0 : Nat) (a1 : Int32) (a2 : Int32) (n0 : Nat) : Met l yX0_decoded (jw yX0_decoded cX0_decoded 8 (some .int)) ({ frames := 0, cells := 0, slots := 0, locals := 0 }) (va_Pc [.ref r0, .int a1, .int a2] (fun U => U.heap = H0 ∧ jX B base G0 [] H0 ∧ jG dC dI ca base U ∧ G0 r0 = some (100, n0) ∧ jP (dC, dI) G0 H0 [] ∧ n0 < 1000000 ∧ a2.toInt ≤ 1000000)) (va_Qi (S := Unit) (fun r u => (True)) (fun u t => jRt (dC, dI) B base G0 EX0_decoded H0 [] t.heap) (jA base)) 0 0 (jA base) := by
  refine Met.ofW (cc := cX0_decoded) (maxL := 8) (ret := (some .int)) (by decide) rfl ?_
  intro p e s m args below meth c s₁ Bd hml hv
  obtain ⟨rfl, hH0, hX, hG, hg_r0, hP0, hp0, hp1⟩ := hv
  have hK := hG.1
  have hx := Bd.exec
  have hb := Bd.bytes
  have hr := Bd.returns
  have hts := atoms_spec (ws := (jw yX0_decoded cX0_decoded 8 (some .int))) Bd.pre
  have htw : ∀ w ∈ jWl, w.before _ s = true := fun w h => hts w (List.mem_cons_of_mem _ h)
  have hown : s.vm.findClass RX0 = some m.cls := findClass_of_methodNamed Bd.named
  have hlocks := Bd.notSynchronized
  obtain ⟨Q, hQ⟩ : ∃ Q, Q = MQ below (va_Qi (S := Unit) (fun r u => (True)) (fun u t => jRt (dC, dI) B base G0 EX0_decoded H0 [] t.heap) (jA base)) ([.ref r0, .int a1, .int a2] : List Value).toArray s 0 0 (jA base) := ⟨_, rfl⟩
  rw [← hQ]
  have hl := lv_entry ([.ref r0, .int a1, .int a2]) (n := 8) (Nat.le_of_ble_eq_true rfl)
  rw [lg_entry_eq]
  generalize (lg_sl ([.ref r0, .int a1, .int a2]) ++ List.replicate (8 - (lg_sl ([.ref r0, .int a1, .int a2])).length) Slot.unset).toArray = ls at hl ⊢
  have hl : lv_has ls 8 [(0, .ref r0), (1, .int a1), (2, .int a2)] := hl
  generalize hR : (headSpec (jw yX0_decoded cX0_decoded 8 (some .int)) ({ frames := 0, cells := 0, slots := 0, locals := 0 })).room = R
  subst hH0
  have hh : jSt (dC, dI) B base G0 G0 EX0_decoded s.heap 0 0 [] [] [] s.heap [] := jSt.start hX hP0 jMc.nil jIs.nil
  clear hX hP0
  have hkm1 : ((-1) : Int32).toInt = (-1) := by decide
  have hk0 : (0 : Int32).toInt = 0 := by decide
  have hk1 : (1 : Int32).toInt = 1 := by decide
  have hk2 : (2 : Int32).toInt = 2 := by decide
  have hk3 : (3 : Int32).toInt = 3 := by decide
  have hk6 : (6 : Int32).toInt = 6 := by decide
  have hk63 : (63 : Int32).toInt = 63 := by decide
  have hk128 : (128 : Int32).toInt = 128 := by decide
  have hk192 : (192 : Int32).toInt = 192 := by decide
  have hk194 : (194 : Int32).toInt = 194 := by decide
  have hk224 : (224 : Int32).toInt = 224 := by decide
  have hk240 : (240 : Int32).toInt = 240 := by decide
  have hk244 : (244 : Int32).toInt = 244 := by decide
  have hk255 : (255 : Int32).toInt = 255 := by decide
  have hk2048 : (2048 : Int32).toInt = 2048 := by decide
  have hk55296 : (55296 : Int32).toInt = 55296 := by decide
  have hk57344 : (57344 : Int32).toInt = 57344 := by decide
  have hk65536 : (65536 : Int32).toInt = 65536 := by decide
  have hk1114111 : (1114111 : Int32).toInt = 1114111 := by decide
  have hcs_60 := htw (.constant RX0 60 65536) (jWr_20 _ (List.mem_of_getElem? (i := 15) rfl))
  have hcs_74 := htw (.constant RX0 74 1114111) (jWr_20 _ (List.mem_of_getElem? (i := 16) rfl))
  have hcs_61 := htw (.constant RX0 61 55296) (jWr_20 _ (List.mem_of_getElem? (i := 17) rfl))
  have hcs_73 := htw (.constant RX0 73 57344) (jWr_20 _ (List.mem_of_getElem? (i := 18) rfl))
  have hrg_a1 := jb_rng a1
  have hrg_a2 := jb_rng a2
  refine lv_iload_n hx hb dX0_decoded_0 rfl (lv_at hl 1 rfl) ?_
  refine lv_if_lt (tgt := 15) hx hb dX0_decoded_1 (by decide) (fun c_1 => ?_) (fun c_1 => ?_)
  · skip
    have c_1' : a1.toInt < 0 := jb_lt (rfl) ((by decide)) c_1
    refine lv_iconst (v := (-1)) hx hb dX0_decoded_15 (by decide) ?_
    rw [hQ]
    exact W.iret (v := (-1)) hx hb hr (fun t ht hW => ⟨⟨(-1), (), rfl, trivial, hh.rt (M1 := []) [] rfl ht⟩, by rw [ht]; try exact hh.1.1, fun q h9 hq => by rw [ht]; try exact hh.1.2.1 q h9 hq⟩) hh.1.2.2 dX0_decoded_16
  · skip
    have c_1' : a1.toInt ≥ 0 := jb_lt_n (rfl) ((by decide)) c_1
    refine lv_iload_n hx hb dX0_decoded_4 rfl (lv_at hl 1 rfl) ?_
    refine lv_iload_n hx hb dX0_decoded_5 rfl (lv_at hl 2 rfl) ?_
    refine lv_icmp_ge (tgt := 15) hx hb dX0_decoded_6 (by decide) (fun c_2 => ?_) (fun c_2 => ?_)
    · skip
      have c_2' : a1.toInt ≥ a2.toInt := jb_ge (rfl) (rfl) c_2
      refine lv_iconst (v := (-1)) hx hb dX0_decoded_15 (by decide) ?_
      rw [hQ]
      exact W.iret (v := (-1)) hx hb hr (fun t ht hW => ⟨⟨(-1), (), rfl, trivial, hh.rt (M1 := []) [] rfl ht⟩, by rw [ht]; try exact hh.1.1, fun q h9 hq => by rw [ht]; try exact hh.1.2.1 q h9 hq⟩) hh.1.2.2 dX0_decoded_16
    · skip
      have c_2' : a1.toInt < a2.toInt := jb_ge_n (rfl) (rfl) c_2
      refine lv_iload_n hx hb dX0_decoded_9 rfl (lv_at hl 2 rfl) ?_
      refine lv_aload_n hx hb dX0_decoded_10 rfl (lv_at hl 0 rfl) ?_
      refine j7_len hx hb hK hh hB100 0 rfl (by decide) hg_r0 (by omega) dX0_decoded_11 (fun z_3 hz_3 => ?_)
      refine lv_icmp_le (tgt := 17) hx hb dX0_decoded_12 (by decide) (fun c_4 => ?_) (fun c_4 => ?_)
      · skip
        have c_4' : a2.toInt ≤ z_3.toInt := jb_le (rfl) (rfl) c_4
        refine lv_aload_n hx hb dX0_decoded_17 rfl (lv_at hl 0 rfl) ?_
        refine lv_iload_n hx hb dX0_decoded_18 rfl (lv_at hl 1 rfl) ?_
        refine j7_bald hx hb hK hh hB100 0 rfl (by decide) hg_r0 (x := a1.toInt) (rfl) (by omega) dX0_decoded_19 (fun z_5 (hz_5 : True) => ?_)
        refine lv_sipush (v := 255) hx hb dX0_decoded_20 (by decide) ?_
        refine lv_iand hx hb dX0_decoded_23 ?_
        refine lv_topi (fun z_6 ez_6 => ?_)
        have hz_6 : 0 ≤ z_6.toInt ∧ z_6.toInt ≤ 255 := by rw [ez_6]; exact jb_and z_5 (m := 255) (k := 8) (by decide) (by decide)
        refine lv_istore_n (lv' := [(3, .int z_6), (0, .ref r0), (1, .int a1), (2, .int a2)]) hx hb dX0_decoded_24 rfl hl (by decide) rfl (fun ls hl => ?_)
        refine lv_iload_n hx hb dX0_decoded_25 rfl (lv_at hl 0 rfl) ?_
        refine lv_sipush (v := 128) hx hb dX0_decoded_26 (by decide) ?_
        refine lv_icmp_ge (tgt := 34) hx hb dX0_decoded_29 (by decide) (fun c_7 => ?_) (fun c_7 => ?_)
        · skip
          have c_7' : z_6.toInt ≥ 128 := jb_ge (rfl) ((by decide)) c_7
          refine lv_iload_n hx hb dX0_decoded_34 rfl (lv_at hl 0 rfl) ?_
          refine lv_sipush (v := 240) hx hb dX0_decoded_35 (by decide) ?_
          have C57 : ∀ (w0_8 : Int32) (H_8 : Heap) (locs_8 : List Loc), jSt (dC, dI) B base G0 G0 EX0_decoded s.heap 0 0 [] [] [] H_8 locs_8 → (1 ≤ w0_8.toInt ∧ w0_8.toInt ≤ 3) → ∀ ls : Array Slot, lv_has ls 8 [(0, .ref r0), (1, .int a1), (2, .int a2), (3, .int z_6)] → W p l e R s m ([.ref r0, .int a1, .int a2] : List Value).toArray below meth c H_8 locs_8 0 0 Q (F0 m 57 ls [.int w0_8]) := by
            intro w0_8 H_8 locs_8 hh_8  hi_8 ls hl
            obtain ⟨hi_8_0, hi_8_1⟩ := hi_8
            refine lv_istore (lv' := [(4, .int w0_8), (0, .ref r0), (1, .int a1), (2, .int a2), (3, .int z_6)]) hx hb dX0_decoded_57 hl (by decide) rfl (fun ls hl => ?_)
            refine lv_iload_n hx hb dX0_decoded_59 rfl (lv_at hl 4 rfl) ?_
            refine lv_sipush (v := 194) hx hb dX0_decoded_60 (by decide) ?_
            refine lv_icmp_lt (tgt := 81) hx hb dX0_decoded_63 (by decide) (fun c_9 => ?_) (fun c_9 => ?_)
            · skip
              have c_9' : z_6.toInt < 194 := jb_lt (rfl) ((by decide)) c_9
              refine lv_iconst (v := (-1)) hx hb dX0_decoded_81 (by decide) ?_
              rw [hQ]
              exact W.iret (v := (-1)) hx hb hr (fun t ht hW => ⟨⟨(-1), (), rfl, trivial, hh_8.rt (M1 := []) [] rfl ht⟩, by rw [ht]; try exact hh_8.1.1, fun q h9 hq => by rw [ht]; try exact hh_8.1.2.1 q h9 hq⟩) hh_8.1.2.2 dX0_decoded_82
            · skip
              have c_9' : z_6.toInt ≥ 194 := jb_lt_n (rfl) ((by decide)) c_9
              refine lv_iload_n hx hb dX0_decoded_66 rfl (lv_at hl 4 rfl) ?_
              refine lv_sipush (v := 244) hx hb dX0_decoded_67 (by decide) ?_
              refine lv_icmp_gt (tgt := 81) hx hb dX0_decoded_70 (by decide) (fun c_10 => ?_) (fun c_10 => ?_)
              · skip
                have c_10' : z_6.toInt > 244 := jb_gt (rfl) ((by decide)) c_10
                refine lv_iconst (v := (-1)) hx hb dX0_decoded_81 (by decide) ?_
                rw [hQ]
                exact W.iret (v := (-1)) hx hb hr (fun t ht hW => ⟨⟨(-1), (), rfl, trivial, hh_8.rt (M1 := []) [] rfl ht⟩, by rw [ht]; try exact hh_8.1.1, fun q h9 hq => by rw [ht]; try exact hh_8.1.2.1 q h9 hq⟩) hh_8.1.2.2 dX0_decoded_82
              · skip
                have c_10' : z_6.toInt ≤ 244 := jb_gt_n (rfl) ((by decide)) c_10
                refine lv_iload hx hb dX0_decoded_73 (lv_at hl 0 rfl) ?_
                refine lv_iload_n hx hb dX0_decoded_75 rfl (lv_at hl 3 rfl) ?_
                refine lv_iload_n hx hb dX0_decoded_76 rfl (lv_at hl 2 rfl) ?_
                refine lv_isub hx hb dX0_decoded_77 ?_
                refine lv_topi (fun z_11 ez_11 => ?_)
                have hz_11 : z_11.toInt = a2.toInt - a1.toInt := by rw [ez_11]; exact jb_isub2 (rfl) (rfl) (by omega)
                refine lv_icmp_lt (tgt := 83) hx hb dX0_decoded_78 (by decide) (fun c_12 => ?_) (fun c_12 => ?_)
                · skip
                  have c_12' : w0_8.toInt < z_11.toInt := jb_lt (rfl) (rfl) c_12
                  refine lv_iload_n hx hb dX0_decoded_83 rfl (lv_at hl 4 rfl) ?_
                  refine lv_bipush (v := 63) hx hb dX0_decoded_84 (by decide) ?_
                  refine lv_iload hx hb dX0_decoded_86 (lv_at hl 0 rfl) ?_
                  refine lv_ishr hx hb dX0_decoded_88 ?_
                  refine lv_topi (fun z_13 ez_13 => ?_)
                  refine lv_iand hx hb dX0_decoded_89 ?_
                  refine lv_topi (fun z_14 ez_14 => ?_)
                  refine lv_istore (lv' := [(5, .int z_14), (4, .int w0_8), (0, .ref r0), (1, .int a1), (2, .int a2), (3, .int z_6)]) hx hb dX0_decoded_90 hl (by decide) rfl (fun ls hl => ?_)
                  refine lv_iconst (v := 1) hx hb dX0_decoded_92 (by decide) ?_
                  refine lv_istore (lv' := [(6, .int 1), (5, .int z_14), (4, .int w0_8), (0, .ref r0), (1, .int a1), (2, .int a2), (3, .int z_6)]) hx hb dX0_decoded_93 hl (by decide) rfl (fun ls hl => ?_)
                  have L95 : ∀ (N : Nat) (v5_15 : Int32) (v6_15 : Int32) (H_15 : Heap) (locs_15 : List Loc), jSt (dC, dI) B base G0 G0 EX0_decoded s.heap 0 0 [] [] [] H_15 locs_15 → (1 ≤ v6_15.toInt ∧ v6_15.toInt ≤ w0_8.toInt + 1) → (w0_8.toInt + 1 - v6_15.toInt : Int) < N → ∀ ls : Array Slot, lv_has ls 8 [(0, .ref r0), (1, .int a1), (2, .int a2), (3, .int z_6), (4, .int w0_8), (5, .int v5_15), (6, .int v6_15)] → W p l e R s m ([.ref r0, .int a1, .int a2] : List Value).toArray below meth c H_15 locs_15 0 0 Q (F0 m 95 ls []) := by
                    intro N
                    induction N with
                    | zero => intro v5_15 v6_15 H_15 locs_15 hh_15  hi_15 hm; exact absurd hm (by omega)
                    | succ N L95 =>
                      intro v5_15 v6_15 H_15 locs_15 hh_15  hi_15 hm_15 ls hl
                      obtain ⟨hi_15_0, hi_15_1⟩ := hi_15
                      refine lv_iload hx hb dX0_decoded_95 (lv_at hl 6 rfl) ?_
                      refine lv_iload hx hb dX0_decoded_97 (lv_at hl 4 rfl) ?_
                      refine lv_icmp_gt (tgt := 147) hx hb dX0_decoded_99 (by decide) (fun c_16 => ?_) (fun c_16 => ?_)
                      · skip
                        have c_16' : v6_15.toInt > w0_8.toInt := jb_gt (rfl) (rfl) c_16
                        refine lv_iload hx hb dX0_decoded_147 (lv_at hl 4 rfl) ?_
                        refine lv_iconst (v := 2) hx hb dX0_decoded_149 (by decide) ?_
                        refine lv_icmp_ne (tgt := 161) hx hb dX0_decoded_150 (by decide) (fun c_17 => ?_) (fun c_17 => ?_)
                        · skip
                          have c_17' : w0_8.toInt ≠ 2 := jb_ne (rfl) ((by decide)) c_17
                          refine lv_iload hx hb dX0_decoded_161 (lv_at hl 4 rfl) ?_
                          refine lv_iconst (v := 3) hx hb dX0_decoded_163 (by decide) ?_
                          refine lv_icmp_ne (tgt := 178) hx hb dX0_decoded_164 (by decide) (fun c_18 => ?_) (fun c_18 => ?_)
                          · skip
                            have c_18' : w0_8.toInt ≠ 3 := jb_ne (rfl) ((by decide)) c_18
                            refine lv_iconst (v := 0) hx hb dX0_decoded_178 (by decide) ?_
                            refine lv_istore (lv' := [(6, .int 0), (0, .ref r0), (1, .int a1), (2, .int a2), (3, .int z_6), (4, .int w0_8), (5, .int v5_15)]) hx hb dX0_decoded_179 hl (by decide) rfl (fun ls hl => ?_)
                            refine lv_iload hx hb dX0_decoded_181 (lv_at hl 0 rfl) ?_
                            refine lv_if_ne (tgt := 207) hx hb dX0_decoded_183 (by decide) (fun c_19 => ?_) (fun c_19 => ?_)
                            · skip
                              exact absurd c_19 (by decide)
                            · skip
                              refine lv_iload hx hb dX0_decoded_186 (lv_at hl 6 rfl) ?_
                              refine lv_ldc hx hb hown hcs_74 dX0_decoded_188 ?_
                              refine lv_icmp_gt (tgt := 207) hx hb dX0_decoded_190 (by decide) (fun c_20 => ?_) (fun c_20 => ?_)
                              · skip
                                have c_20' : v5_15.toInt > 1114111 := jb_gt (rfl) ((by decide)) c_20
                                refine lv_iconst (v := (-1)) hx hb dX0_decoded_207 (by decide) ?_
                                refine lv_goto (tgt := 213) hx hb dX0_decoded_208 (by decide) ?_
                                rw [hQ]
                                exact W.iret (v := (-1)) hx hb hr (fun t ht hW => ⟨⟨(-1), (), rfl, trivial, hh_15.rt (M1 := []) [] rfl ht⟩, by rw [ht]; try exact hh_15.1.1, fun q h9 hq => by rw [ht]; try exact hh_15.1.2.1 q h9 hq⟩) hh_15.1.2.2 dX0_decoded_213
                              · skip
                                have c_20' : v5_15.toInt ≤ 1114111 := jb_gt_n (rfl) ((by decide)) c_20
                                refine lv_iload hx hb dX0_decoded_193 (lv_at hl 6 rfl) ?_
                                refine lv_ldc hx hb hown hcs_61 dX0_decoded_195 ?_
                                refine lv_icmp_lt (tgt := 211) hx hb dX0_decoded_197 (by decide) (fun c_21 => ?_) (fun c_21 => ?_)
                                · skip
                                  have c_21' : v5_15.toInt < 55296 := jb_lt (rfl) ((by decide)) c_21
                                  refine lv_iload hx hb dX0_decoded_211 (lv_at hl 6 rfl) ?_
                                  rw [hQ]
                                  exact W.iret (v := v5_15) hx hb hr (fun t ht hW => ⟨⟨v5_15, (), rfl, trivial, hh_15.rt (M1 := []) [] rfl ht⟩, by rw [ht]; try exact hh_15.1.1, fun q h9 hq => by rw [ht]; try exact hh_15.1.2.1 q h9 hq⟩) hh_15.1.2.2 dX0_decoded_213
                                · skip
                                  have c_21' : v5_15.toInt ≥ 55296 := jb_lt_n (rfl) ((by decide)) c_21
                                  refine lv_iload hx hb dX0_decoded_200 (lv_at hl 6 rfl) ?_
                                  refine lv_ldc hx hb hown hcs_73 dX0_decoded_202 ?_
                                  refine lv_icmp_ge (tgt := 211) hx hb dX0_decoded_204 (by decide) (fun c_22 => ?_) (fun c_22 => ?_)
                                  · skip
                                    have c_22' : v5_15.toInt ≥ 57344 := jb_ge (rfl) ((by decide)) c_22
                                    refine lv_iload hx hb dX0_decoded_211 (lv_at hl 6 rfl) ?_
                                    rw [hQ]
                                    exact W.iret (v := v5_15) hx hb hr (fun t ht hW => ⟨⟨v5_15, (), rfl, trivial, hh_15.rt (M1 := []) [] rfl ht⟩, by rw [ht]; try exact hh_15.1.1, fun q h9 hq => by rw [ht]; try exact hh_15.1.2.1 q h9 hq⟩) hh_15.1.2.2 dX0_decoded_213
                                  · skip
                                    have c_22' : v5_15.toInt < 57344 := jb_ge_n (rfl) ((by decide)) c_22
                                    refine lv_iconst (v := (-1)) hx hb dX0_decoded_207 (by decide) ?_
                                    refine lv_goto (tgt := 213) hx hb dX0_decoded_208 (by decide) ?_
                                    rw [hQ]
                                    exact W.iret (v := (-1)) hx hb hr (fun t ht hW => ⟨⟨(-1), (), rfl, trivial, hh_15.rt (M1 := []) [] rfl ht⟩, by rw [ht]; try exact hh_15.1.1, fun q h9 hq => by rw [ht]; try exact hh_15.1.2.1 q h9 hq⟩) hh_15.1.2.2 dX0_decoded_213
                          · skip
                            have c_18' : w0_8.toInt = 3 := jb_ne_n (rfl) ((by decide)) c_18
                            refine lv_iload hx hb dX0_decoded_167 (lv_at hl 5 rfl) ?_
                            refine lv_ldc hx hb hown hcs_60 dX0_decoded_169 ?_
                            refine lv_icmp_ge (tgt := 178) hx hb dX0_decoded_171 (by decide) (fun c_23 => ?_) (fun c_23 => ?_)
                            · skip
                              have c_23' : v5_15.toInt ≥ 65536 := jb_ge (rfl) ((by decide)) c_23
                              refine lv_iconst (v := 0) hx hb dX0_decoded_178 (by decide) ?_
                              refine lv_istore (lv' := [(6, .int 0), (0, .ref r0), (1, .int a1), (2, .int a2), (3, .int z_6), (4, .int w0_8), (5, .int v5_15)]) hx hb dX0_decoded_179 hl (by decide) rfl (fun ls hl => ?_)
                              refine lv_iload hx hb dX0_decoded_181 (lv_at hl 0 rfl) ?_
                              refine lv_if_ne (tgt := 207) hx hb dX0_decoded_183 (by decide) (fun c_24 => ?_) (fun c_24 => ?_)
                              · skip
                                exact absurd c_24 (by decide)
                              · skip
                                refine lv_iload hx hb dX0_decoded_186 (lv_at hl 6 rfl) ?_
                                refine lv_ldc hx hb hown hcs_74 dX0_decoded_188 ?_
                                refine lv_icmp_gt (tgt := 207) hx hb dX0_decoded_190 (by decide) (fun c_25 => ?_) (fun c_25 => ?_)
                                · skip
                                  have c_25' : v5_15.toInt > 1114111 := jb_gt (rfl) ((by decide)) c_25
                                  refine lv_iconst (v := (-1)) hx hb dX0_decoded_207 (by decide) ?_
                                  refine lv_goto (tgt := 213) hx hb dX0_decoded_208 (by decide) ?_
                                  rw [hQ]
                                  exact W.iret (v := (-1)) hx hb hr (fun t ht hW => ⟨⟨(-1), (), rfl, trivial, hh_15.rt (M1 := []) [] rfl ht⟩, by rw [ht]; try exact hh_15.1.1, fun q h9 hq => by rw [ht]; try exact hh_15.1.2.1 q h9 hq⟩) hh_15.1.2.2 dX0_decoded_213
                                · skip
                                  have c_25' : v5_15.toInt ≤ 1114111 := jb_gt_n (rfl) ((by decide)) c_25
                                  refine lv_iload hx hb dX0_decoded_193 (lv_at hl 6 rfl) ?_
                                  refine lv_ldc hx hb hown hcs_61 dX0_decoded_195 ?_
                                  refine lv_icmp_lt (tgt := 211) hx hb dX0_decoded_197 (by decide) (fun c_26 => ?_) (fun c_26 => ?_)
                                  · skip
                                    have c_26' : v5_15.toInt < 55296 := jb_lt (rfl) ((by decide)) c_26
                                    refine lv_iload hx hb dX0_decoded_211 (lv_at hl 6 rfl) ?_
                                    rw [hQ]
                                    exact W.iret (v := v5_15) hx hb hr (fun t ht hW => ⟨⟨v5_15, (), rfl, trivial, hh_15.rt (M1 := []) [] rfl ht⟩, by rw [ht]; try exact hh_15.1.1, fun q h9 hq => by rw [ht]; try exact hh_15.1.2.1 q h9 hq⟩) hh_15.1.2.2 dX0_decoded_213
                                  · skip
                                    have c_26' : v5_15.toInt ≥ 55296 := jb_lt_n (rfl) ((by decide)) c_26
                                    refine lv_iload hx hb dX0_decoded_200 (lv_at hl 6 rfl) ?_
                                    refine lv_ldc hx hb hown hcs_73 dX0_decoded_202 ?_
                                    refine lv_icmp_ge (tgt := 211) hx hb dX0_decoded_204 (by decide) (fun c_27 => ?_) (fun c_27 => ?_)
                                    · skip
                                      have c_27' : v5_15.toInt ≥ 57344 := jb_ge (rfl) ((by decide)) c_27
                                      refine lv_iload hx hb dX0_decoded_211 (lv_at hl 6 rfl) ?_
                                      rw [hQ]
                                      exact W.iret (v := v5_15) hx hb hr (fun t ht hW => ⟨⟨v5_15, (), rfl, trivial, hh_15.rt (M1 := []) [] rfl ht⟩, by rw [ht]; try exact hh_15.1.1, fun q h9 hq => by rw [ht]; try exact hh_15.1.2.1 q h9 hq⟩) hh_15.1.2.2 dX0_decoded_213
                                    · skip
                                      have c_27' : v5_15.toInt < 57344 := jb_ge_n (rfl) ((by decide)) c_27
                                      refine lv_iconst (v := (-1)) hx hb dX0_decoded_207 (by decide) ?_
                                      refine lv_goto (tgt := 213) hx hb dX0_decoded_208 (by decide) ?_
                                      rw [hQ]
                                      exact W.iret (v := (-1)) hx hb hr (fun t ht hW => ⟨⟨(-1), (), rfl, trivial, hh_15.rt (M1 := []) [] rfl ht⟩, by rw [ht]; try exact hh_15.1.1, fun q h9 hq => by rw [ht]; try exact hh_15.1.2.1 q h9 hq⟩) hh_15.1.2.2 dX0_decoded_213
                            · skip
                              have c_23' : v5_15.toInt < 65536 := jb_ge_n (rfl) ((by decide)) c_23
                              refine lv_iconst (v := 1) hx hb dX0_decoded_174 (by decide) ?_
                              refine lv_goto (tgt := 179) hx hb dX0_decoded_175 (by decide) ?_
                              refine lv_istore (lv' := [(6, .int 1), (0, .ref r0), (1, .int a1), (2, .int a2), (3, .int z_6), (4, .int w0_8), (5, .int v5_15)]) hx hb dX0_decoded_179 hl (by decide) rfl (fun ls hl => ?_)
                              refine lv_iload hx hb dX0_decoded_181 (lv_at hl 0 rfl) ?_
                              refine lv_if_ne (tgt := 207) hx hb dX0_decoded_183 (by decide) (fun c_28 => ?_) (fun c_28 => ?_)
                              · skip
                                refine lv_iconst (v := (-1)) hx hb dX0_decoded_207 (by decide) ?_
                                refine lv_goto (tgt := 213) hx hb dX0_decoded_208 (by decide) ?_
                                rw [hQ]
                                exact W.iret (v := (-1)) hx hb hr (fun t ht hW => ⟨⟨(-1), (), rfl, trivial, hh_15.rt (M1 := []) [] rfl ht⟩, by rw [ht]; try exact hh_15.1.1, fun q h9 hq => by rw [ht]; try exact hh_15.1.2.1 q h9 hq⟩) hh_15.1.2.2 dX0_decoded_213
                              · skip
                                exact absurd c_28 (by decide)
                        · skip
                          have c_17' : w0_8.toInt = 2 := jb_ne_n (rfl) ((by decide)) c_17
                          refine lv_iload hx hb dX0_decoded_153 (lv_at hl 5 rfl) ?_
                          refine lv_sipush (v := 2048) hx hb dX0_decoded_155 (by decide) ?_
                          refine lv_icmp_lt (tgt := 174) hx hb dX0_decoded_158 (by decide) (fun c_29 => ?_) (fun c_29 => ?_)
                          · skip
                            have c_29' : v5_15.toInt < 2048 := jb_lt (rfl) ((by decide)) c_29
                            refine lv_iconst (v := 1) hx hb dX0_decoded_174 (by decide) ?_
                            refine lv_goto (tgt := 179) hx hb dX0_decoded_175 (by decide) ?_
                            refine lv_istore (lv' := [(6, .int 1), (0, .ref r0), (1, .int a1), (2, .int a2), (3, .int z_6), (4, .int w0_8), (5, .int v5_15)]) hx hb dX0_decoded_179 hl (by decide) rfl (fun ls hl => ?_)
                            refine lv_iload hx hb dX0_decoded_181 (lv_at hl 0 rfl) ?_
                            refine lv_if_ne (tgt := 207) hx hb dX0_decoded_183 (by decide) (fun c_30 => ?_) (fun c_30 => ?_)
                            · skip
                              refine lv_iconst (v := (-1)) hx hb dX0_decoded_207 (by decide) ?_
                              refine lv_goto (tgt := 213) hx hb dX0_decoded_208 (by decide) ?_
                              rw [hQ]
                              exact W.iret (v := (-1)) hx hb hr (fun t ht hW => ⟨⟨(-1), (), rfl, trivial, hh_15.rt (M1 := []) [] rfl ht⟩, by rw [ht]; try exact hh_15.1.1, fun q h9 hq => by rw [ht]; try exact hh_15.1.2.1 q h9 hq⟩) hh_15.1.2.2 dX0_decoded_213
                            · skip
                              exact absurd c_30 (by decide)
                          · skip
                            have c_29' : v5_15.toInt ≥ 2048 := jb_lt_n (rfl) ((by decide)) c_29
                            refine lv_iload hx hb dX0_decoded_161 (lv_at hl 4 rfl) ?_
                            refine lv_iconst (v := 3) hx hb dX0_decoded_163 (by decide) ?_
                            refine lv_icmp_ne (tgt := 178) hx hb dX0_decoded_164 (by decide) (fun c_31 => ?_) (fun c_31 => ?_)
                            · skip
                              have c_31' : w0_8.toInt ≠ 3 := jb_ne (rfl) ((by decide)) c_31
                              refine lv_iconst (v := 0) hx hb dX0_decoded_178 (by decide) ?_
                              refine lv_istore (lv' := [(6, .int 0), (0, .ref r0), (1, .int a1), (2, .int a2), (3, .int z_6), (4, .int w0_8), (5, .int v5_15)]) hx hb dX0_decoded_179 hl (by decide) rfl (fun ls hl => ?_)
                              refine lv_iload hx hb dX0_decoded_181 (lv_at hl 0 rfl) ?_
                              refine lv_if_ne (tgt := 207) hx hb dX0_decoded_183 (by decide) (fun c_32 => ?_) (fun c_32 => ?_)
                              · skip
                                exact absurd c_32 (by decide)
                              · skip
                                refine lv_iload hx hb dX0_decoded_186 (lv_at hl 6 rfl) ?_
                                refine lv_ldc hx hb hown hcs_74 dX0_decoded_188 ?_
                                refine lv_icmp_gt (tgt := 207) hx hb dX0_decoded_190 (by decide) (fun c_33 => ?_) (fun c_33 => ?_)
                                · skip
                                  have c_33' : v5_15.toInt > 1114111 := jb_gt (rfl) ((by decide)) c_33
                                  refine lv_iconst (v := (-1)) hx hb dX0_decoded_207 (by decide) ?_
                                  refine lv_goto (tgt := 213) hx hb dX0_decoded_208 (by decide) ?_
                                  rw [hQ]
                                  exact W.iret (v := (-1)) hx hb hr (fun t ht hW => ⟨⟨(-1), (), rfl, trivial, hh_15.rt (M1 := []) [] rfl ht⟩, by rw [ht]; try exact hh_15.1.1, fun q h9 hq => by rw [ht]; try exact hh_15.1.2.1 q h9 hq⟩) hh_15.1.2.2 dX0_decoded_213
                                · skip
                                  have c_33' : v5_15.toInt ≤ 1114111 := jb_gt_n (rfl) ((by decide)) c_33
                                  refine lv_iload hx hb dX0_decoded_193 (lv_at hl 6 rfl) ?_
                                  refine lv_ldc hx hb hown hcs_61 dX0_decoded_195 ?_
                                  refine lv_icmp_lt (tgt := 211) hx hb dX0_decoded_197 (by decide) (fun c_34 => ?_) (fun c_34 => ?_)
                                  · skip
                                    have c_34' : v5_15.toInt < 55296 := jb_lt (rfl) ((by decide)) c_34
                                    refine lv_iload hx hb dX0_decoded_211 (lv_at hl 6 rfl) ?_
                                    rw [hQ]
                                    exact W.iret (v := v5_15) hx hb hr (fun t ht hW => ⟨⟨v5_15, (), rfl, trivial, hh_15.rt (M1 := []) [] rfl ht⟩, by rw [ht]; try exact hh_15.1.1, fun q h9 hq => by rw [ht]; try exact hh_15.1.2.1 q h9 hq⟩) hh_15.1.2.2 dX0_decoded_213
                                  · skip
                                    have c_34' : v5_15.toInt ≥ 55296 := jb_lt_n (rfl) ((by decide)) c_34
                                    refine lv_iload hx hb dX0_decoded_200 (lv_at hl 6 rfl) ?_
                                    refine lv_ldc hx hb hown hcs_73 dX0_decoded_202 ?_
                                    refine lv_icmp_ge (tgt := 211) hx hb dX0_decoded_204 (by decide) (fun c_35 => ?_) (fun c_35 => ?_)
                                    · skip
                                      have c_35' : v5_15.toInt ≥ 57344 := jb_ge (rfl) ((by decide)) c_35
                                      refine lv_iload hx hb dX0_decoded_211 (lv_at hl 6 rfl) ?_
                                      rw [hQ]
                                      exact W.iret (v := v5_15) hx hb hr (fun t ht hW => ⟨⟨v5_15, (), rfl, trivial, hh_15.rt (M1 := []) [] rfl ht⟩, by rw [ht]; try exact hh_15.1.1, fun q h9 hq => by rw [ht]; try exact hh_15.1.2.1 q h9 hq⟩) hh_15.1.2.2 dX0_decoded_213
                                    · skip
                                      have c_35' : v5_15.toInt < 57344 := jb_ge_n (rfl) ((by decide)) c_35
                                      refine lv_iconst (v := (-1)) hx hb dX0_decoded_207 (by decide) ?_
                                      refine lv_goto (tgt := 213) hx hb dX0_decoded_208 (by decide) ?_
                                      rw [hQ]
                                      exact W.iret (v := (-1)) hx hb hr (fun t ht hW => ⟨⟨(-1), (), rfl, trivial, hh_15.rt (M1 := []) [] rfl ht⟩, by rw [ht]; try exact hh_15.1.1, fun q h9 hq => by rw [ht]; try exact hh_15.1.2.1 q h9 hq⟩) hh_15.1.2.2 dX0_decoded_213
                            · skip
                              have c_31' : w0_8.toInt = 3 := jb_ne_n (rfl) ((by decide)) c_31
                              refine lv_iload hx hb dX0_decoded_167 (lv_at hl 5 rfl) ?_
                              refine lv_ldc hx hb hown hcs_60 dX0_decoded_169 ?_
                              refine lv_icmp_ge (tgt := 178) hx hb dX0_decoded_171 (by decide) (fun c_36 => ?_) (fun c_36 => ?_)
                              · skip
                                have c_36' : v5_15.toInt ≥ 65536 := jb_ge (rfl) ((by decide)) c_36
                                refine lv_iconst (v := 0) hx hb dX0_decoded_178 (by decide) ?_
                                refine lv_istore (lv' := [(6, .int 0), (0, .ref r0), (1, .int a1), (2, .int a2), (3, .int z_6), (4, .int w0_8), (5, .int v5_15)]) hx hb dX0_decoded_179 hl (by decide) rfl (fun ls hl => ?_)
                                refine lv_iload hx hb dX0_decoded_181 (lv_at hl 0 rfl) ?_
                                refine lv_if_ne (tgt := 207) hx hb dX0_decoded_183 (by decide) (fun c_37 => ?_) (fun c_37 => ?_)
                                · skip
                                  exact absurd c_37 (by decide)
                                · skip
                                  refine lv_iload hx hb dX0_decoded_186 (lv_at hl 6 rfl) ?_
                                  refine lv_ldc hx hb hown hcs_74 dX0_decoded_188 ?_
                                  refine lv_icmp_gt (tgt := 207) hx hb dX0_decoded_190 (by decide) (fun c_38 => ?_) (fun c_38 => ?_)
                                  · skip
                                    have c_38' : v5_15.toInt > 1114111 := jb_gt (rfl) ((by decide)) c_38
                                    refine lv_iconst (v := (-1)) hx hb dX0_decoded_207 (by decide) ?_
                                    refine lv_goto (tgt := 213) hx hb dX0_decoded_208 (by decide) ?_
                                    rw [hQ]
                                    exact W.iret (v := (-1)) hx hb hr (fun t ht hW => ⟨⟨(-1), (), rfl, trivial, hh_15.rt (M1 := []) [] rfl ht⟩, by rw [ht]; try exact hh_15.1.1, fun q h9 hq => by rw [ht]; try exact hh_15.1.2.1 q h9 hq⟩) hh_15.1.2.2 dX0_decoded_213
                                  · skip
                                    have c_38' : v5_15.toInt ≤ 1114111 := jb_gt_n (rfl) ((by decide)) c_38
                                    refine lv_iload hx hb dX0_decoded_193 (lv_at hl 6 rfl) ?_
                                    refine lv_ldc hx hb hown hcs_61 dX0_decoded_195 ?_
                                    refine lv_icmp_lt (tgt := 211) hx hb dX0_decoded_197 (by decide) (fun c_39 => ?_) (fun c_39 => ?_)
                                    · skip
                                      have c_39' : v5_15.toInt < 55296 := jb_lt (rfl) ((by decide)) c_39
                                      refine lv_iload hx hb dX0_decoded_211 (lv_at hl 6 rfl) ?_
                                      rw [hQ]
                                      exact W.iret (v := v5_15) hx hb hr (fun t ht hW => ⟨⟨v5_15, (), rfl, trivial, hh_15.rt (M1 := []) [] rfl ht⟩, by rw [ht]; try exact hh_15.1.1, fun q h9 hq => by rw [ht]; try exact hh_15.1.2.1 q h9 hq⟩) hh_15.1.2.2 dX0_decoded_213
                                    · skip
                                      have c_39' : v5_15.toInt ≥ 55296 := jb_lt_n (rfl) ((by decide)) c_39
                                      refine lv_iload hx hb dX0_decoded_200 (lv_at hl 6 rfl) ?_
                                      refine lv_ldc hx hb hown hcs_73 dX0_decoded_202 ?_
                                      refine lv_icmp_ge (tgt := 211) hx hb dX0_decoded_204 (by decide) (fun c_40 => ?_) (fun c_40 => ?_)
                                      · skip
                                        have c_40' : v5_15.toInt ≥ 57344 := jb_ge (rfl) ((by decide)) c_40
                                        refine lv_iload hx hb dX0_decoded_211 (lv_at hl 6 rfl) ?_
                                        rw [hQ]
                                        exact W.iret (v := v5_15) hx hb hr (fun t ht hW => ⟨⟨v5_15, (), rfl, trivial, hh_15.rt (M1 := []) [] rfl ht⟩, by rw [ht]; try exact hh_15.1.1, fun q h9 hq => by rw [ht]; try exact hh_15.1.2.1 q h9 hq⟩) hh_15.1.2.2 dX0_decoded_213
                                      · skip
                                        have c_40' : v5_15.toInt < 57344 := jb_ge_n (rfl) ((by decide)) c_40
                                        refine lv_iconst (v := (-1)) hx hb dX0_decoded_207 (by decide) ?_
                                        refine lv_goto (tgt := 213) hx hb dX0_decoded_208 (by decide) ?_
                                        rw [hQ]
                                        exact W.iret (v := (-1)) hx hb hr (fun t ht hW => ⟨⟨(-1), (), rfl, trivial, hh_15.rt (M1 := []) [] rfl ht⟩, by rw [ht]; try exact hh_15.1.1, fun q h9 hq => by rw [ht]; try exact hh_15.1.2.1 q h9 hq⟩) hh_15.1.2.2 dX0_decoded_213
                              · skip
                                have c_36' : v5_15.toInt < 65536 := jb_ge_n (rfl) ((by decide)) c_36
                                refine lv_iconst (v := 1) hx hb dX0_decoded_174 (by decide) ?_
                                refine lv_goto (tgt := 179) hx hb dX0_decoded_175 (by decide) ?_
                                refine lv_istore (lv' := [(6, .int 1), (0, .ref r0), (1, .int a1), (2, .int a2), (3, .int z_6), (4, .int w0_8), (5, .int v5_15)]) hx hb dX0_decoded_179 hl (by decide) rfl (fun ls hl => ?_)
                                refine lv_iload hx hb dX0_decoded_181 (lv_at hl 0 rfl) ?_
                                refine lv_if_ne (tgt := 207) hx hb dX0_decoded_183 (by decide) (fun c_41 => ?_) (fun c_41 => ?_)
                                · skip
                                  refine lv_iconst (v := (-1)) hx hb dX0_decoded_207 (by decide) ?_
                                  refine lv_goto (tgt := 213) hx hb dX0_decoded_208 (by decide) ?_
                                  rw [hQ]
                                  exact W.iret (v := (-1)) hx hb hr (fun t ht hW => ⟨⟨(-1), (), rfl, trivial, hh_15.rt (M1 := []) [] rfl ht⟩, by rw [ht]; try exact hh_15.1.1, fun q h9 hq => by rw [ht]; try exact hh_15.1.2.1 q h9 hq⟩) hh_15.1.2.2 dX0_decoded_213
                                · skip
                                  exact absurd c_41 (by decide)
                      · skip
                        have c_16' : v6_15.toInt ≤ w0_8.toInt := jb_gt_n (rfl) (rfl) c_16
                        refine lv_aload_n hx hb dX0_decoded_102 rfl (lv_at hl 0 rfl) ?_
                        refine lv_iload_n hx hb dX0_decoded_103 rfl (lv_at hl 1 rfl) ?_
                        refine lv_iload hx hb dX0_decoded_104 (lv_at hl 6 rfl) ?_
                        refine lv_iadd hx hb dX0_decoded_106 ?_
                        refine lv_topi (fun z_42 ez_42 => ?_)
                        have hz_42 : z_42.toInt = a1.toInt + v6_15.toInt := by rw [ez_42]; exact jb_iadd2 (rfl) (rfl) (by omega)
                        refine j7_bald hx hb hK hh_15 hB100 0 rfl (by decide) hg_r0 (x := z_42.toInt) (rfl) (by omega) dX0_decoded_107 (fun z_43 (hz_43 : True) => ?_)
                        refine lv_sipush (v := 255) hx hb dX0_decoded_108 (by decide) ?_
                        refine lv_iand hx hb dX0_decoded_111 ?_
                        refine lv_topi (fun z_44 ez_44 => ?_)
                        have hz_44 : 0 ≤ z_44.toInt ∧ z_44.toInt ≤ 255 := by rw [ez_44]; exact jb_and z_43 (m := 255) (k := 8) (by decide) (by decide)
                        refine lv_istore (lv' := [(7, .int z_44), (0, .ref r0), (1, .int a1), (2, .int a2), (3, .int z_6), (4, .int w0_8), (5, .int v5_15), (6, .int v6_15)]) hx hb dX0_decoded_112 hl (by decide) rfl (fun ls hl => ?_)
                        refine lv_iload hx hb dX0_decoded_114 (lv_at hl 0 rfl) ?_
                        refine lv_sipush (v := 192) hx hb dX0_decoded_116 (by decide) ?_
                        refine lv_iand hx hb dX0_decoded_119 ?_
                        refine lv_topi (fun z_45 ez_45 => ?_)
                        refine lv_sipush (v := 128) hx hb dX0_decoded_120 (by decide) ?_
                        refine lv_icmp_eq (tgt := 128) hx hb dX0_decoded_123 (by decide) (fun c_46 => ?_) (fun c_46 => ?_)
                        · skip
                          have c_46' : z_45.toInt = 128 := jb_eq (rfl) ((by decide)) c_46
                          refine lv_iload hx hb dX0_decoded_128 (lv_at hl 6 rfl) ?_
                          refine lv_bipush (v := 6) hx hb dX0_decoded_130 (by decide) ?_
                          refine lv_ishl hx hb dX0_decoded_132 ?_
                          refine lv_topi (fun z_47 ez_47 => ?_)
                          refine lv_iload hx hb dX0_decoded_133 (lv_at hl 0 rfl) ?_
                          refine lv_bipush (v := 63) hx hb dX0_decoded_135 (by decide) ?_
                          refine lv_iand hx hb dX0_decoded_137 ?_
                          refine lv_topi (fun z_48 ez_48 => ?_)
                          have hz_48 : 0 ≤ z_48.toInt ∧ z_48.toInt ≤ 63 := by rw [ez_48]; exact jb_and z_44 (m := 63) (k := 6) (by decide) (by decide)
                          refine lv_ior hx hb dX0_decoded_138 ?_
                          refine lv_topi (fun z_49 ez_49 => ?_)
                          refine lv_istore (lv' := [(5, .int z_49), (7, .int z_44), (0, .ref r0), (1, .int a1), (2, .int a2), (3, .int z_6), (4, .int w0_8), (6, .int v6_15)]) hx hb dX0_decoded_139 hl (by decide) rfl (fun ls hl => ?_)
                          obtain ⟨z_50, ez_50⟩ : ∃ y : Int32, y = v6_15 + 1 := ⟨_, rfl⟩
                          refine lv_iinc (v := z_50) (lv' := [(6, .int z_50), (5, .int z_49), (7, .int z_44), (0, .ref r0), (1, .int a1), (2, .int a2), (3, .int z_6), (4, .int w0_8)]) hx hb dX0_decoded_141 hl (k := 7) rfl (by rw [ez_50]; rfl) (by decide) rfl (fun ls hl => ?_)
                          have hz_50 : z_50.toInt = v6_15.toInt + 1 := by rw [ez_50]; exact jb_iadd2 (rfl) (by decide) (by omega)
                          refine lv_goto (tgt := 95) hx hb dX0_decoded_144 (by decide) ?_
                          exact L95 z_49 z_50 _ _ hh_15 (by first | omega | (refine ⟨?_, ?_⟩ <;> (first | omega | rfl | assumption | decide | exact Or.inl rfl | exact Or.inr rfl | (simp only; omega)))) (by omega) _ (lv_sub hl [3, 4, 5, 6, 7, 1, 0] rfl)
                        · skip
                          have c_46' : z_45.toInt ≠ 128 := jb_eq_n (rfl) ((by decide)) c_46
                          refine lv_iconst (v := (-1)) hx hb dX0_decoded_126 (by decide) ?_
                          rw [hQ]
                          exact W.iret (v := (-1)) hx hb hr (fun t ht hW => ⟨⟨(-1), (), rfl, trivial, hh_15.rt (M1 := []) [] rfl ht⟩, by rw [ht]; try exact hh_15.1.1, fun q h9 hq => by rw [ht]; try exact hh_15.1.2.1 q h9 hq⟩) hh_15.1.2.2 dX0_decoded_127
                  exact L95 (w0_8.toInt + 1 - (1 : Int32).toInt : Int).toNat.succ z_14 1 _ _ hh_8 (by first | omega | (refine ⟨?_, ?_⟩ <;> (first | omega | rfl | assumption | decide | exact Or.inl rfl | exact Or.inr rfl | (simp only; omega)))) (by omega) _ (lv_sub hl [3, 4, 5, 6, 2, 1, 0] rfl)
                · skip
                  have c_12' : w0_8.toInt ≥ z_11.toInt := jb_lt_n (rfl) (rfl) c_12
                  refine lv_iconst (v := (-1)) hx hb dX0_decoded_81 (by decide) ?_
                  rw [hQ]
                  exact W.iret (v := (-1)) hx hb hr (fun t ht hW => ⟨⟨(-1), (), rfl, trivial, hh_8.rt (M1 := []) [] rfl ht⟩, by rw [ht]; try exact hh_8.1.1, fun q h9 hq => by rw [ht]; try exact hh_8.1.2.1 q h9 hq⟩) hh_8.1.2.2 dX0_decoded_82
          refine lv_icmp_lt (tgt := 45) hx hb dX0_decoded_38 (by decide) (fun c_51 => ?_) (fun c_51 => ?_)
          · skip
            have c_51' : z_6.toInt < 240 := jb_lt (rfl) ((by decide)) c_51
            refine lv_iload_n hx hb dX0_decoded_45 rfl (lv_at hl 0 rfl) ?_
            refine lv_sipush (v := 224) hx hb dX0_decoded_46 (by decide) ?_
            refine lv_icmp_lt (tgt := 56) hx hb dX0_decoded_49 (by decide) (fun c_52 => ?_) (fun c_52 => ?_)
            · skip
              have c_52' : z_6.toInt < 224 := jb_lt (rfl) ((by decide)) c_52
              refine lv_iconst (v := 1) hx hb dX0_decoded_56 (by decide) ?_
              exact C57 1 _ _ hh (by first | omega | (refine ⟨?_, ?_⟩ <;> (first | omega | rfl | assumption | decide | exact Or.inl rfl | exact Or.inr rfl | (simp only; omega)))) _ (lv_sub hl [1, 2, 3, 0] rfl)
            · skip
              have c_52' : z_6.toInt ≥ 224 := jb_lt_n (rfl) ((by decide)) c_52
              refine lv_iconst (v := 2) hx hb dX0_decoded_52 (by decide) ?_
              refine lv_goto (tgt := 57) hx hb dX0_decoded_53 (by decide) ?_
              exact C57 2 _ _ hh (by first | omega | (refine ⟨?_, ?_⟩ <;> (first | omega | rfl | assumption | decide | exact Or.inl rfl | exact Or.inr rfl | (simp only; omega)))) _ (lv_sub hl [1, 2, 3, 0] rfl)
          · skip
            have c_51' : z_6.toInt ≥ 240 := jb_lt_n (rfl) ((by decide)) c_51
            refine lv_iconst (v := 3) hx hb dX0_decoded_41 (by decide) ?_
            refine lv_goto (tgt := 57) hx hb dX0_decoded_42 (by decide) ?_
            exact C57 3 _ _ hh (by first | omega | (refine ⟨?_, ?_⟩ <;> (first | omega | rfl | assumption | decide | exact Or.inl rfl | exact Or.inr rfl | (simp only; omega)))) _ (lv_sub hl [1, 2, 3, 0] rfl)
        · skip
          have c_7' : z_6.toInt < 128 := jb_ge_n (rfl) ((by decide)) c_7
          refine lv_iload_n hx hb dX0_decoded_32 rfl (lv_at hl 0 rfl) ?_
          rw [hQ]
          exact W.iret (v := z_6) hx hb hr (fun t ht hW => ⟨⟨z_6, (), rfl, trivial, hh.rt (M1 := []) [] rfl ht⟩, by rw [ht]; try exact hh.1.1, fun q h9 hq => by rw [ht]; try exact hh.1.2.1 q h9 hq⟩) hh.1.2.2 dX0_decoded_33
      · skip
        have c_4' : a2.toInt > z_3.toInt := jb_le_n (rfl) (rfl) c_4
        refine lv_iconst (v := (-1)) hx hb dX0_decoded_15 (by decide) ?_
        rw [hQ]
        exact W.iret (v := (-1)) hx hb hr (fun t ht hW => ⟨⟨(-1), (), rfl, trivial, hh.rt (M1 := []) [] rfl ht⟩, by rw [ht]; try exact hh.1.1, fun q h9 hq => by rw [ht]; try exact hh.1.2.1 q h9 hq⟩) hh.1.2.2 dX0_decoded_16
set_option maxHeartbeats 4000000 in
set_option maxRecDepth 20000 in
theorem uX4_peek (l : Launch) (dC : Nat → ClassId) (dI : Nat → Nat → Nat) (ca : Nat → ClassId) (base : Nat) (B : jF) (hB : jBok B) (hAp : jAp (dC, dI)) (hB6 : ∀ n G a H, B 6 n G a H ↔ jOb (dC, dI) 6 12 (F6 n G) a H) (hB100 : ∀ n G a H, B 100 n G a H ↔ jAr (dC, dI) (ca 0) (fun j z => True) n a H) (G0 : jT) (H0 : Heap) (r0 : Nat) (rb : Nat) (n_rb : Nat) (pe : Int32) (pt : Int32) : Met l yX4_peek (jw yX4_peek cX4_peek 1 (some .int)) ({ frames := 0, cells := 0, slots := 0, locals := 0 }) (va_Pc [.ref r0] (fun U => U.heap = H0 ∧ jX B base G0 [] H0 ∧ jG dC dI ca base U ∧ G0 r0 = some (6, 0) ∧ G0 rb = some (100, n_rb) ∧ jP (dC, dI) G0 H0 [(r0, 6, 9, .ref rb), (r0, 6, 10, .int pe), (r0, 6, 11, .int pt)] ∧ 0 ≤ pe.toInt ∧ pe.toInt ≤ n_rb ∧ n_rb ≤ 3000 ∧ 0 ≤ pt.toInt ∧ pt.toInt ≤ 19000)) (va_Qi (S := Unit) (fun r u => (-1 ≤ r.toInt ∧ r.toInt ≤ 255 ∧ (r.toInt = -1 ∨ pt.toInt < pe.toInt))) (fun u t => jRt (dC, dI) B base G0 EX4_peek H0 [] t.heap) (jA base)) 0 0 (jA base) := by
  refine Met.ofW (cc := cX4_peek) (maxL := 1) (ret := (some .int)) (by decide) rfl ?_
  intro p e s m args below meth c s₁ Bd hml hv
  obtain ⟨rfl, hH0, hX, hG, hg_r0, hg_rb, hP0, hp0, hp1, hp2, hp3, hp4⟩ := hv
  have hK := hG.1
  have hx := Bd.exec
  have hb := Bd.bytes
  have hr := Bd.returns
  have hts := atoms_spec (ws := (jw yX4_peek cX4_peek 1 (some .int))) Bd.pre
  have htw : ∀ w ∈ jWl, w.before _ s = true := fun w h => hts w (List.mem_cons_of_mem _ h)
  have hown : s.vm.findClass RX4 = some m.cls := findClass_of_methodNamed Bd.named
  have hlocks := Bd.notSynchronized
  obtain ⟨Q, hQ⟩ : ∃ Q, Q = MQ below (va_Qi (S := Unit) (fun r u => (-1 ≤ r.toInt ∧ r.toInt ≤ 255 ∧ (r.toInt = -1 ∨ pt.toInt < pe.toInt))) (fun u t => jRt (dC, dI) B base G0 EX4_peek H0 [] t.heap) (jA base)) ([.ref r0] : List Value).toArray s 0 0 (jA base) := ⟨_, rfl⟩
  rw [← hQ]
  have hl := lv_entry ([.ref r0]) (n := 1) (Nat.le_of_ble_eq_true rfl)
  rw [lg_entry_eq]
  generalize (lg_sl ([.ref r0]) ++ List.replicate (1 - (lg_sl ([.ref r0])).length) Slot.unset).toArray = ls at hl ⊢
  have hl : lv_has ls 1 [(0, .ref r0)] := hl
  generalize hR : (headSpec (jw yX4_peek cX4_peek 1 (some .int)) ({ frames := 0, cells := 0, slots := 0, locals := 0 })).room = R
  subst hH0
  have hh : jSt (dC, dI) B base G0 G0 EX4_peek s.heap 0 0 [(r0, 6, 9, .ref rb), (r0, 6, 10, .int pe), (r0, 6, 11, .int pt)] [] [] s.heap [] := jSt.start hX hP0 jMc.nil jIs.nil
  clear hX hP0
  have hkm1 : ((-1) : Int32).toInt = (-1) := by decide
  have hk0 : (0 : Int32).toInt = 0 := by decide
  have hk1 : (1 : Int32).toInt = 1 := by decide
  have hk255 : (255 : Int32).toInt = 255 := by decide
  have hly_6_9 := htw (u_lay RX4 TX4 9) (jWc_wsX40 _ (u_in_lay (by decide)))
  have hly_6_10 := htw (u_lay RX4 TX4 10) (jWc_wsX40 _ (u_in_lay (by decide)))
  have hly_6_11 := htw (u_lay RX4 TX4 11) (jWc_wsX40 _ (u_in_lay (by decide)))
  have hlk_47 := (htw (.fieldLink RX4 47 "ProofServer$Json" "at" "I") (jWr_19 _ (List.mem_of_getElem? (i := 12) rfl)))
  have hlk_43 := (htw (.fieldLink RX4 43 "ProofServer$Json" "end" "I") (jWr_19 _ (List.mem_of_getElem? (i := 11) rfl)))
  have hlk_33 := (htw (.fieldLink RX4 33 "ProofServer$Json" "bytes" "[B") (jWr_4 _ (List.mem_of_getElem? (i := 4) rfl)))
  refine lv_aload_n hx hb dX4_peek_0 rfl (lv_at hl 0 rfl) ?_
  refine j7_read hx hb hown hK (C := RX4) (T := TX4) (N := 12) rfl hly_6_11 hlk_47 (hh.at 2 rfl) dX4_peek_1 ?_
  refine lv_if_lt (tgt := 34) hx hb dX4_peek_4 (by decide) (fun c_1 => ?_) (fun c_1 => ?_)
  · skip
    have c_1' : pt.toInt < 0 := jb_lt (rfl) ((by decide)) c_1
    refine lv_iconst (v := (-1)) hx hb dX4_peek_34 (by decide) ?_
    rw [hQ]
    exact W.iret (v := (-1)) hx hb hr (fun t ht hW => ⟨⟨(-1), (), rfl, by first | omega | (refine ⟨?_, ?_, ?_⟩ <;> (first | omega | rfl | assumption | decide | exact Or.inl rfl | exact Or.inr rfl | (simp only; omega))), hh.rt (M1 := []) [] rfl ht⟩, by rw [ht]; try exact hh.1.1, fun q h9 hq => by rw [ht]; try exact hh.1.2.1 q h9 hq⟩) hh.1.2.2 dX4_peek_35
  · skip
    have c_1' : pt.toInt ≥ 0 := jb_lt_n (rfl) ((by decide)) c_1
    refine lv_aload_n hx hb dX4_peek_7 rfl (lv_at hl 0 rfl) ?_
    refine j7_read hx hb hown hK (C := RX4) (T := TX4) (N := 12) rfl hly_6_11 hlk_47 (hh.at 2 rfl) dX4_peek_8 ?_
    refine lv_aload_n hx hb dX4_peek_11 rfl (lv_at hl 0 rfl) ?_
    refine j7_read hx hb hown hK (C := RX4) (T := TX4) (N := 12) rfl hly_6_10 hlk_43 (hh.at 1 rfl) dX4_peek_12 ?_
    refine lv_icmp_ge (tgt := 34) hx hb dX4_peek_15 (by decide) (fun c_2 => ?_) (fun c_2 => ?_)
    · skip
      have c_2' : pt.toInt ≥ pe.toInt := jb_ge (rfl) (rfl) c_2
      refine lv_iconst (v := (-1)) hx hb dX4_peek_34 (by decide) ?_
      rw [hQ]
      exact W.iret (v := (-1)) hx hb hr (fun t ht hW => ⟨⟨(-1), (), rfl, by first | omega | (refine ⟨?_, ?_, ?_⟩ <;> (first | omega | rfl | assumption | decide | exact Or.inl rfl | exact Or.inr rfl | (simp only; omega))), hh.rt (M1 := []) [] rfl ht⟩, by rw [ht]; try exact hh.1.1, fun q h9 hq => by rw [ht]; try exact hh.1.2.1 q h9 hq⟩) hh.1.2.2 dX4_peek_35
    · skip
      have c_2' : pt.toInt < pe.toInt := jb_ge_n (rfl) (rfl) c_2
      refine lv_aload_n hx hb dX4_peek_18 rfl (lv_at hl 0 rfl) ?_
      refine j7_read hx hb hown hK (C := RX4) (T := TX4) (N := 12) rfl hly_6_9 hlk_33 (hh.at 0 rfl) dX4_peek_19 ?_
      refine lv_aload_n hx hb dX4_peek_22 rfl (lv_at hl 0 rfl) ?_
      refine j7_read hx hb hown hK (C := RX4) (T := TX4) (N := 12) rfl hly_6_11 hlk_47 (hh.at 2 rfl) dX4_peek_23 ?_
      refine j7_bald hx hb hK hh hB100 0 rfl (by decide) hg_rb (x := pt.toInt) (rfl) (by omega) dX4_peek_26 (fun z_3 (hz_3 : True) => ?_)
      refine lv_sipush (v := 255) hx hb dX4_peek_27 (by decide) ?_
      refine lv_iand hx hb dX4_peek_30 ?_
      refine lv_topi (fun z_4 ez_4 => ?_)
      have hz_4 : 0 ≤ z_4.toInt ∧ z_4.toInt ≤ 255 := by rw [ez_4]; exact jb_and z_3 (m := 255) (k := 8) (by decide) (by decide)
      refine lv_goto (tgt := 35) hx hb dX4_peek_31 (by decide) ?_
      rw [hQ]
      exact W.iret (v := z_4) hx hb hr (fun t ht hW => ⟨⟨z_4, (), rfl, by first | omega | (refine ⟨?_, ?_, ?_⟩ <;> (first | omega | rfl | assumption | decide | exact Or.inl rfl | exact Or.inr rfl | (simp only; omega))), hh.rt (M1 := []) [] rfl ht⟩, by rw [ht]; try exact hh.1.1, fun q h9 hq => by rw [ht]; try exact hh.1.2.1 q h9 hq⟩) hh.1.2.2 dX4_peek_35
set_option maxHeartbeats 4000000 in
set_option maxRecDepth 20000 in
theorem uX4_skipBlanks (l : Launch) (dC : Nat → ClassId) (dI : Nat → Nat → Nat) (ca : Nat → ClassId) (base : Nat) (B : jF) (hB : jBok B) (hAp : jAp (dC, dI)) (hB6 : ∀ n G a H, B 6 n G a H ↔ jOb (dC, dI) 6 12 (F6 n G) a H) (hB100 : ∀ n G a H, B 100 n G a H ↔ jAr (dC, dI) (ca 0) (fun j z => True) n a H) (G0 : jT) (H0 : Heap) (r0 : Nat) (rb : Nat) (n_rb : Nat) (pe : Int32) (pt : Int32) (kb : Int) : Met l yX4_skipBlanks (jw yX4_skipBlanks cX4_skipBlanks 1 none) ({ frames := 1, cells := 0, slots := 0, locals := 20 }) (va_Pc [.ref r0] (fun U => U.heap = H0 ∧ jX B base G0 [] H0 ∧ jG dC dI ca base U ∧ G0 r0 = some (6, 0) ∧ G0 rb = some (100, n_rb) ∧ jP (dC, dI) G0 H0 [(r0, 6, 9, .ref rb), (r0, 6, 10, .int pe), (r0, 6, 11, .int pt)] ∧ 0 ≤ pe.toInt ∧ pe.toInt ≤ n_rb ∧ n_rb ≤ 3000 ∧ 0 ≤ pt.toInt ∧ pt.toInt ≤ 19000 ∧ pt.toInt ≤ kb ∧ pe.toInt ≤ kb ∧ kb ≤ 19000)) (va_Qv (S := Int32) (fun u => pt.toInt ≤ u.toInt ∧ u.toInt ≤ kb) (fun u t => jRt (dC, dI) B base G0 EX4_skipBlanks H0 [(r0, 6, 11, .int u)] t.heap) (jA base)) 0 0 (jA base) := by
  refine Met.ofW (cc := cX4_skipBlanks) (maxL := 1) (ret := none) (by decide) rfl ?_
  intro p e s m args below meth c s₁ Bd hml hv
  obtain ⟨rfl, hH0, hX, hG, hg_r0, hg_rb, hP0, hp0, hp1, hp2, hp3, hp4, hp5, hp6, hp7⟩ := hv
  have hK := hG.1
  have hx := Bd.exec
  have hb := Bd.bytes
  have hr := Bd.returns
  have hts := atoms_spec (ws := (jw yX4_skipBlanks cX4_skipBlanks 1 none)) Bd.pre
  have htw : ∀ w ∈ jWl, w.before _ s = true := fun w h => hts w (List.mem_cons_of_mem _ h)
  have hown : s.vm.findClass RX4 = some m.cls := findClass_of_methodNamed Bd.named
  have hlocks := Bd.notSynchronized
  obtain ⟨Q, hQ⟩ : ∃ Q, Q = MQ below (va_Qv (S := Int32) (fun u => pt.toInt ≤ u.toInt ∧ u.toInt ≤ kb) (fun u t => jRt (dC, dI) B base G0 EX4_skipBlanks H0 [(r0, 6, 11, .int u)] t.heap) (jA base)) ([.ref r0] : List Value).toArray s 0 0 (jA base) := ⟨_, rfl⟩
  rw [← hQ]
  have hl := lv_entry ([.ref r0]) (n := 1) (Nat.le_of_ble_eq_true rfl)
  rw [lg_entry_eq]
  generalize (lg_sl ([.ref r0]) ++ List.replicate (1 - (lg_sl ([.ref r0])).length) Slot.unset).toArray = ls at hl ⊢
  have hl : lv_has ls 1 [(0, .ref r0)] := hl
  generalize hR : (headSpec (jw yX4_skipBlanks cX4_skipBlanks 1 none) ({ frames := 1, cells := 0, slots := 0, locals := 20 })).room = R
  subst hH0
  have hh : jSt (dC, dI) B base G0 G0 EX4_skipBlanks s.heap 0 0 [(r0, 6, 9, .ref rb), (r0, 6, 10, .int pe), (r0, 6, 11, .int pt)] [] [] s.heap [] := jSt.start hX hP0 jMc.nil jIs.nil
  clear hX hP0
  have hk0 : (0 : Int32).toInt = 0 := by decide
  have hk1 : (1 : Int32).toInt = 1 := by decide
  have hly_6_10 := htw (u_lay RX4 TX4 10) (jWc_wsX40 _ (u_in_lay (by decide)))
  have hly_6_11 := htw (u_lay RX4 TX4 11) (jWc_wsX40 _ (u_in_lay (by decide)))
  have hlk_47 := (htw (.fieldLink RX4 47 "ProofServer$Json" "at" "I") (jWr_19 _ (List.mem_of_getElem? (i := 12) rfl)))
  have hlk_43 := (htw (.fieldLink RX4 43 "ProofServer$Json" "end" "I") (jWr_19 _ (List.mem_of_getElem? (i := 11) rfl)))
  have L0 : ∀ (N : Nat) (wt_1 : Int32) (H_1 : Heap) (locs_1 : List Loc), jSt (dC, dI) B base G0 G0 EX4_skipBlanks s.heap 0 0 [(r0, 6, 11, .int wt_1), (r0, 6, 9, .ref rb), (r0, 6, 10, .int pe)] [] [] H_1 locs_1 → (pt.toInt ≤ wt_1.toInt ∧ wt_1.toInt ≤ kb) → (((pe.toInt - wt_1.toInt).toNat : Int) : Int) < N → ∀ ls : Array Slot, lv_has ls 1 [(0, .ref r0)] → W p l e R s m ([.ref r0] : List Value).toArray below meth c H_1 locs_1 0 0 Q (F0 m 0 ls []) := by
    intro N
    induction N with
    | zero => intro wt_1 H_1 locs_1 hh_1  hi_1 hm; exact absurd hm (by omega)
    | succ N L0 =>
      intro wt_1 H_1 locs_1 hh_1  hi_1 hm_1 ls hl
      obtain ⟨hi_1_0, hi_1_1⟩ := hi_1
      refine lv_aload_n hx hb dX4_skipBlanks_0 rfl (lv_at hl 0 rfl) ?_
      refine j7_read hx hb hown hK (C := RX4) (T := TX4) (N := 12) rfl hly_6_11 hlk_47 (hh_1.at 0 rfl) dX4_skipBlanks_1 ?_
      refine lv_aload_n hx hb dX4_skipBlanks_4 rfl (lv_at hl 0 rfl) ?_
      refine j7_read hx hb hown hK (C := RX4) (T := TX4) (N := 12) rfl hly_6_10 hlk_43 (hh_1.at 2 rfl) dX4_skipBlanks_5 ?_
      refine lv_icmp_ge (tgt := 34) hx hb dX4_skipBlanks_8 (by decide) (fun c_2 => ?_) (fun c_2 => ?_)
      · skip
        have c_2' : wt_1.toInt ≥ pe.toInt := jb_ge (rfl) (rfl) c_2
        rw [hQ]
        exact W.vret hx hb hr (fun t ht hW => ⟨⟨wt_1, rfl, by first | omega | (refine ⟨?_, ?_⟩ <;> (first | omega | rfl | assumption | decide | exact Or.inl rfl | exact Or.inr rfl | (simp only; omega))), hh_1.rt (M1 := [(r0, 6, 11, .int wt_1)]) [0] rfl ht⟩, by rw [ht]; try exact hh_1.1.1, fun q h9 hq => by rw [ht]; try exact hh_1.1.2.1 q h9 hq⟩) hh_1.1.2.2 dX4_skipBlanks_34
      · skip
        have c_2' : wt_1.toInt < pe.toInt := jb_ge_n (rfl) (rfl) c_2
        refine lv_aload_n hx hb dX4_skipBlanks_11 rfl (lv_at hl 0 rfl) ?_
        refine va_calli (A0 := jA base) (H0 := s.heap) (va_runV (As := []) (rest := []) ⟨hx, hb, hml, hown, hts⟩ (uX4_peek l dC dI ca base B hB hAp hB6 hB100 G0 H_1 r0 rb n_rb pe wt_1) (cwV 0 hts (jgV (jWr_19 _ (List.mem_of_getElem? (i := 19) rfl)) (jWr_19 _ (List.mem_of_getElem? (i := 20) rfl)) (jWr_19 _ (List.mem_of_getElem? (i := 21) rfl)) (jWr_1 _ (List.mem_of_getElem? (i := 22) rfl)) (jWr_19 _ (List.mem_of_getElem? (i := 22) rfl))) rfl rfl rfl (by decide +kernel) ⟨by rw [← hR]; exact Nat.le_of_ble_eq_true rfl, by rw [← hR]; exact Nat.le_of_ble_eq_true rfl⟩) ⟨fun a U g mk q => by obtain ⟨q0, q1, q2, qK, q10, q11, q12, q13⟩ := q; exact ⟨q0, q1, q2, jG.calling g mk a qK, q10, q11, q12, q13⟩, hh_1.recv (C := RX4) (T := TX4) (N := 12) hB6 rfl (by decide) hg_r0 hK, fun U hU hW => ⟨rfl, hU, hh_1.2.1, hG.step hW hU hh_1.1, hg_r0, hg_rb, (hh_1.2.2.1.sub (L1 := [(r0, 6, 9, .ref rb), (r0, 6, 10, .int pe), (r0, 6, 11, .int wt_1)]) [1, 2, 0] rfl), by first | omega | (refine ⟨?_, ?_, ?_, ?_, ?_⟩ <;> (first | omega | rfl | assumption | decide | exact Or.inl rfl | exact Or.inr rfl | (simp only; omega)))⟩⟩ rfl rfl hl.1 rfl (lv_room (Nat.le_of_ble_eq_true rfl)) dX4_skipBlanks_12 ⟨Nat.zero_le _, Nat.zero_le _⟩) hh_1.1 (fun q _ h => h) (fun q h => h) (fun r_4 u_3 t_3 H_3 locs_3 ht_3 hvm_3 hr_4 hb_3 hz_3 hk_3 hS_3 => ?_)
        rw [ht_3] at hb_3
        obtain ⟨hb_31, hb_32, hb_33, hb_34, hb_35⟩ := hb_3
        have hh_3 : jSt (dC, dI) B base G0 G0 EX4_skipBlanks s.heap 0 0 [(r0, 6, 11, .int wt_1), (r0, 6, 9, .ref rb), (r0, 6, 10, .int pe)] [] [] H_3 locs_3 := ((hh_1.call hb_31 hb_32 hb_33 hb_34 hS_3 rfl (L1 := [(r0, 6, 11, .int wt_1), (r0, 6, 9, .ref rb), (r0, 6, 10, .int pe)]) [0, 1, 2] rfl rfl (M1 := []) [] rfl rfl (I1 := []) [] rfl rfl).more hb_35)
        clear hh_1 ht_3 hvm_3 hz_3 hk_3 hS_3 hb_31 hb_32 hb_33 hb_34 hb_35
        obtain ⟨hr_4_0, hr_4_1, hr_4_2⟩ := hr_4
        refine vp_callSi (va_Run.run (va_runSN (As := [.int r_4]) (rest := []) ⟨hx, hb, hml, hown, hts⟩ (wX11_isBlank l dC dI ca base H_3 r_4) ⟨va_cnB 1 hts (jgW (jWr_20 _ (List.mem_of_getElem? (i := 0) rfl))) rfl rfl rfl (hG.2.2.1 RX4 92 yX11_isBlank "ProofServer" (List.mem_of_getElem? (i := 641) (by decide +kernel))) (htw (.initialized RX11) (jWr_1 _ (List.mem_of_getElem? (i := 2) rfl))) (by decide +kernel) ⟨by rw [← hR]; exact Nat.le_of_ble_eq_true rfl, by rw [← hR]; exact Nat.le_of_ble_eq_true rfl⟩, htw (.static yX11_isBlank) (jWr_19 _ (List.mem_of_getElem? (i := 23) rfl)), trivial⟩ ⟨fun a U g mk q => by obtain ⟨q0, q1, qK, q9⟩ := q; exact ⟨q0, q1, jG.calling g mk a qK, q9⟩, fun U hU hW => ⟨rfl, hU, hG.step hW hU hh_3.1, by first | trivial | omega | (constructor <;> omega)⟩⟩ rfl rfl hl.1 rfl (lv_room (Nat.le_of_ble_eq_true rfl)) dX4_skipBlanks_15 ⟨Nat.zero_le _, Nat.zero_le _⟩)) (fun r_5 hr_5 => ?_)
        have hr_5' : r_5.toInt = 0 ∨ r_5.toInt = 1 := jb_01 hr_5
        refine lv_if_eq (tgt := 34) hx hb dX4_skipBlanks_18 (by decide) (fun c_6 => ?_) (fun c_6 => ?_)
        · skip
          have c_6' : r_5.toInt = 0 := jb_eq (rfl) ((by decide)) c_6
          rw [hQ]
          exact W.vret hx hb hr (fun t ht hW => ⟨⟨wt_1, rfl, by first | omega | (refine ⟨?_, ?_⟩ <;> (first | omega | rfl | assumption | decide | exact Or.inl rfl | exact Or.inr rfl | (simp only; omega))), hh_3.rt (M1 := [(r0, 6, 11, .int wt_1)]) [0] rfl ht⟩, by rw [ht]; try exact hh_3.1.1, fun q h9 hq => by rw [ht]; try exact hh_3.1.2.1 q h9 hq⟩) hh_3.1.2.2 dX4_skipBlanks_34
        · skip
          have c_6' : r_5.toInt ≠ 0 := jb_eq_n (rfl) ((by decide)) c_6
          refine lv_aload_n hx hb dX4_skipBlanks_21 rfl (lv_at hl 0 rfl) ?_
          refine lv_dup hx hb dX4_skipBlanks_22 rfl ?_
          refine j7_read hx hb hown hK (C := RX4) (T := TX4) (N := 12) rfl hly_6_11 hlk_47 (hh_3.at 0 rfl) dX4_skipBlanks_23 ?_
          refine lv_iconst (v := 1) hx hb dX4_skipBlanks_26 (by decide) ?_
          refine lv_iadd hx hb dX4_skipBlanks_27 ?_
          refine lv_topi (fun z_7 ez_7 => ?_)
          have hz_7 : z_7.toInt = wt_1.toInt + 1 := by rw [ez_7]; exact jb_iadd2 (rfl) ((by decide)) (by omega)
          refine j7_put hx hb hown hK hh_3 hB hAp hB6 (C := RX4) (T := TX4) (N := 12) rfl (by decide) hg_r0 (i := 11) (by decide) hly_6_11 rfl hlk_47 rfl (ty := .int) (v := .int z_7) (by decide +kernel) rfl rfl (⟨_, rfl, by omega, by omega⟩) rfl (L1 := [(r0, 6, 9, .ref rb), (r0, 6, 10, .int pe)]) [1, 2] rfl rfl rfl dX4_skipBlanks_28 (fun H_8 locs_8 hh_8 => ?_)
          clear hh_3
          refine lv_goto (tgt := 0) hx hb dX4_skipBlanks_31 (by decide) ?_
          exact L0 z_7 _ _ hh_8 (by first | omega | (refine ⟨?_, ?_⟩ <;> (first | omega | rfl | assumption | decide | exact Or.inl rfl | exact Or.inr rfl | (simp only; omega)))) (by omega) _ (lv_sub hl [0] rfl)
  exact L0 (((pe.toInt - (pt : Int32).toInt).toNat : Int) : Int).toNat.succ pt _ _ (hh.sub (L1 := [(r0, 6, 11, .int pt), (r0, 6, 9, .ref rb), (r0, 6, 10, .int pe)]) [2, 0, 1] rfl (M1 := []) [] rfl (I1 := []) [] rfl) (by first | omega | (refine ⟨?_, ?_⟩ <;> (first | omega | rfl | assumption | decide | exact Or.inl rfl | exact Or.inr rfl | (simp only; omega)))) (by omega) _ (lv_sub hl [0] rfl)
set_option maxHeartbeats 4000000 in
set_option maxRecDepth 20000 in
theorem uX4_kindOf (l : Launch) (dC : Nat → ClassId) (dI : Nat → Nat → Nat) (ca : Nat → ClassId) (base : Nat) (B : jF) (hB : jBok B) (hAp : jAp (dC, dI)) (hB6 : ∀ n G a H, B 6 n G a H ↔ jOb (dC, dI) 6 12 (F6 n G) a H) (hB140 : ∀ n G a H, B 140 n G a H ↔ jAr (dC, dI) (ca 1) (fun j z => True) n a H) (G0 : jT) (H0 : Heap) (r0 : Nat) (a1 : Int32) (pv : Int32) : Met l yX4_kindOf (jw yX4_kindOf cX4_kindOf 2 (some .int)) ({ frames := 0, cells := 0, slots := 0, locals := 0 }) (va_Pc [.ref r0, .int a1] (fun U => U.heap = H0 ∧ jX B base G0 [] H0 ∧ jG dC dI ca base U ∧ G0 r0 = some (6, 0) ∧ jP (dC, dI) G0 H0 [(r0, 6, 7, .int pv)] ∧ 0 ≤ pv.toInt ∧ pv.toInt ≤ 1502)) (va_Qi (S := Unit) (fun r u => (r.toInt = 0 ∨ (0 ≤ a1.toInt ∧ a1.toInt < pv.toInt))) (fun u t => jRt (dC, dI) B base G0 EX4_kindOf H0 [] t.heap) (jA base)) 0 0 (jA base) := by
  refine Met.ofW (cc := cX4_kindOf) (maxL := 2) (ret := (some .int)) (by decide) rfl ?_
  intro p e s m args below meth c s₁ Bd hml hv
  obtain ⟨rfl, hH0, hX, hG, hg_r0, hP0, hp0, hp1⟩ := hv
  have hK := hG.1
  have hx := Bd.exec
  have hb := Bd.bytes
  have hr := Bd.returns
  have hts := atoms_spec (ws := (jw yX4_kindOf cX4_kindOf 2 (some .int))) Bd.pre
  have htw : ∀ w ∈ jWl, w.before _ s = true := fun w h => hts w (List.mem_cons_of_mem _ h)
  have hown : s.vm.findClass RX4 = some m.cls := findClass_of_methodNamed Bd.named
  have hlocks := Bd.notSynchronized
  obtain ⟨Q, hQ⟩ : ∃ Q, Q = MQ below (va_Qi (S := Unit) (fun r u => (r.toInt = 0 ∨ (0 ≤ a1.toInt ∧ a1.toInt < pv.toInt))) (fun u t => jRt (dC, dI) B base G0 EX4_kindOf H0 [] t.heap) (jA base)) ([.ref r0, .int a1] : List Value).toArray s 0 0 (jA base) := ⟨_, rfl⟩
  rw [← hQ]
  have hl := lv_entry ([.ref r0, .int a1]) (n := 2) (Nat.le_of_ble_eq_true rfl)
  rw [lg_entry_eq]
  generalize (lg_sl ([.ref r0, .int a1]) ++ List.replicate (2 - (lg_sl ([.ref r0, .int a1])).length) Slot.unset).toArray = ls at hl ⊢
  have hl : lv_has ls 2 [(0, .ref r0), (1, .int a1)] := hl
  generalize hR : (headSpec (jw yX4_kindOf cX4_kindOf 2 (some .int)) ({ frames := 0, cells := 0, slots := 0, locals := 0 })).room = R
  subst hH0
  have hh : jSt (dC, dI) B base G0 G0 EX4_kindOf s.heap 0 0 [(r0, 6, 7, .int pv)] [] [] s.heap [] := jSt.start hX hP0 jMc.nil jIs.nil
  clear hX hP0
  have hk0 : (0 : Int32).toInt = 0 := by decide
  have hk1 : (1 : Int32).toInt = 1 := by decide
  have hly_6_0 := htw (u_lay RX4 TX4 0) (jWc_wsX40 _ (u_in_lay (by decide)))
  have hly_6_7 := htw (u_lay RX4 TX4 7) (jWc_wsX40 _ (u_in_lay (by decide)))
  have hlk_50 := (htw (.fieldLink RX4 50 "ProofServer$Json" "values" "I") (jWr_19 _ (List.mem_of_getElem? (i := 13) rfl)))
  have hlk_11 := (htw (.fieldLink RX4 11 "ProofServer$Json" "kinds" "[I") (jWr_3 _ (List.mem_of_getElem? (i := 21) rfl)))
  have hrg_a1 := jb_rng a1
  refine lv_iload_n hx hb dX4_kindOf_0 rfl (lv_at hl 1 rfl) ?_
  refine lv_if_lt (tgt := 12) hx hb dX4_kindOf_1 (by decide) (fun c_1 => ?_) (fun c_1 => ?_)
  · skip
    have c_1' : a1.toInt < 0 := jb_lt (rfl) ((by decide)) c_1
    refine lv_iconst (v := 0) hx hb dX4_kindOf_12 (by decide) ?_
    refine lv_goto (tgt := 22) hx hb dX4_kindOf_13 (by decide) ?_
    rw [hQ]
    exact W.iret (v := 0) hx hb hr (fun t ht hW => ⟨⟨0, (), rfl, by first | omega | rfl | assumption | decide | exact Or.inl rfl | exact Or.inr rfl | (simp only; omega), hh.rt (M1 := []) [] rfl ht⟩, by rw [ht]; try exact hh.1.1, fun q h9 hq => by rw [ht]; try exact hh.1.2.1 q h9 hq⟩) hh.1.2.2 dX4_kindOf_22
  · skip
    have c_1' : a1.toInt ≥ 0 := jb_lt_n (rfl) ((by decide)) c_1
    refine lv_iload_n hx hb dX4_kindOf_4 rfl (lv_at hl 1 rfl) ?_
    refine lv_aload_n hx hb dX4_kindOf_5 rfl (lv_at hl 0 rfl) ?_
    refine j7_read hx hb hown hK (C := RX4) (T := TX4) (N := 12) rfl hly_6_7 hlk_50 (hh.at 0 rfl) dX4_kindOf_6 ?_
    refine lv_icmp_lt (tgt := 16) hx hb dX4_kindOf_9 (by decide) (fun c_2 => ?_) (fun c_2 => ?_)
    · skip
      have c_2' : a1.toInt < pv.toInt := jb_lt (rfl) (rfl) c_2
      refine lv_aload_n hx hb dX4_kindOf_16 rfl (lv_at hl 0 rfl) ?_
      obtain ⟨v_3, hv_3, hh_4⟩ := hh.pin (C := RX4) (T := TX4) (N := 12) hB6 rfl (by decide) hg_r0 (i := 0) (by decide) rfl
      clear hh
      obtain ⟨kinds_5, rfl, hg_kinds_5⟩ := hv_3
      refine j7_read hx hb hown hK (C := RX4) (T := TX4) (N := 12) rfl hly_6_0 hlk_11 (hh_4.at 0 rfl) dX4_kindOf_17 ?_
      refine lv_iload_n hx hb dX4_kindOf_20 rfl (lv_at hl 1 rfl) ?_
      refine j7_iald hx hb hK hh_4 hB140 1 rfl (by decide) hg_kinds_5 (x := a1.toInt) (rfl) (by omega) dX4_kindOf_21 (fun z_6 (hz_6 : True) => ?_)
      rw [hQ]
      exact W.iret (v := z_6) hx hb hr (fun t ht hW => ⟨⟨z_6, (), rfl, by first | omega | rfl | assumption | decide | exact Or.inl rfl | exact Or.inr rfl | (simp only; omega), hh_4.rt (M1 := []) [] rfl ht⟩, by rw [ht]; try exact hh_4.1.1, fun q h9 hq => by rw [ht]; try exact hh_4.1.2.1 q h9 hq⟩) hh_4.1.2.2 dX4_kindOf_22
    · skip
      have c_2' : a1.toInt ≥ pv.toInt := jb_lt_n (rfl) (rfl) c_2
      refine lv_iconst (v := 0) hx hb dX4_kindOf_12 (by decide) ?_
      refine lv_goto (tgt := 22) hx hb dX4_kindOf_13 (by decide) ?_
      rw [hQ]
      exact W.iret (v := 0) hx hb hr (fun t ht hW => ⟨⟨0, (), rfl, by first | omega | rfl | assumption | decide | exact Or.inl rfl | exact Or.inr rfl | (simp only; omega), hh.rt (M1 := []) [] rfl ht⟩, by rw [ht]; try exact hh.1.1, fun q h9 hq => by rw [ht]; try exact hh.1.2.1 q h9 hq⟩) hh.1.2.2 dX4_kindOf_22
set_option maxHeartbeats 4000000 in
set_option maxRecDepth 20000 in
theorem uX4_sizeOf (l : Launch) (dC : Nat → ClassId) (dI : Nat → Nat → Nat) (ca : Nat → ClassId) (base : Nat) (B : jF) (hB : jBok B) (hAp : jAp (dC, dI)) (hB6 : ∀ n G a H, B 6 n G a H ↔ jOb (dC, dI) 6 12 (F6 n G) a H) (hB142 : ∀ n G a H, B 142 n G a H ↔ jAr (dC, dI) (ca 1) (fun j z => True) n a H) (G0 : jT) (H0 : Heap) (r0 : Nat) (a1 : Int32) : Met l yX4_sizeOf (jw yX4_sizeOf cX4_sizeOf 2 (some .int)) ({ frames := 0, cells := 0, slots := 0, locals := 0 }) (va_Pc [.ref r0, .int a1] (fun U => U.heap = H0 ∧ jX B base G0 [] H0 ∧ jG dC dI ca base U ∧ G0 r0 = some (6, 0) ∧ jP (dC, dI) G0 H0 [] ∧ True)) (va_Qi (S := Unit) (fun r u => (True)) (fun u t => jRt (dC, dI) B base G0 EX4_sizeOf H0 [] t.heap) (jA base)) 0 0 (jA base) := by
  refine Met.ofW (cc := cX4_sizeOf) (maxL := 2) (ret := (some .int)) (by decide) rfl ?_
  intro p e s m args below meth c s₁ Bd hml hv
  obtain ⟨rfl, hH0, hX, hG, hg_r0, hP0, hp0⟩ := hv
  have hK := hG.1
  have hx := Bd.exec
  have hb := Bd.bytes
  have hr := Bd.returns
  have hts := atoms_spec (ws := (jw yX4_sizeOf cX4_sizeOf 2 (some .int))) Bd.pre
  have htw : ∀ w ∈ jWl, w.before _ s = true := fun w h => hts w (List.mem_cons_of_mem _ h)
  have hown : s.vm.findClass RX4 = some m.cls := findClass_of_methodNamed Bd.named
  have hlocks := Bd.notSynchronized
  obtain ⟨Q, hQ⟩ : ∃ Q, Q = MQ below (va_Qi (S := Unit) (fun r u => (True)) (fun u t => jRt (dC, dI) B base G0 EX4_sizeOf H0 [] t.heap) (jA base)) ([.ref r0, .int a1] : List Value).toArray s 0 0 (jA base) := ⟨_, rfl⟩
  rw [← hQ]
  have hl := lv_entry ([.ref r0, .int a1]) (n := 2) (Nat.le_of_ble_eq_true rfl)
  rw [lg_entry_eq]
  generalize (lg_sl ([.ref r0, .int a1]) ++ List.replicate (2 - (lg_sl ([.ref r0, .int a1])).length) Slot.unset).toArray = ls at hl ⊢
  have hl : lv_has ls 2 [(0, .ref r0), (1, .int a1)] := hl
  generalize hR : (headSpec (jw yX4_sizeOf cX4_sizeOf 2 (some .int)) ({ frames := 0, cells := 0, slots := 0, locals := 0 })).room = R
  subst hH0
  have hh : jSt (dC, dI) B base G0 G0 EX4_sizeOf s.heap 0 0 [] [] [] s.heap [] := jSt.start hX hP0 jMc.nil jIs.nil
  clear hX hP0
  have hk0 : (0 : Int32).toInt = 0 := by decide
  have hk1 : (1 : Int32).toInt = 1 := by decide
  have hly_6_2 := htw (u_lay RX4 TX4 2) (jWc_wsX40 _ (u_in_lay (by decide)))
  have hly_6_7 := htw (u_lay RX4 TX4 7) (jWc_wsX40 _ (u_in_lay (by decide)))
  have hlk_50 := (htw (.fieldLink RX4 50 "ProofServer$Json" "values" "I") (jWr_19 _ (List.mem_of_getElem? (i := 13) rfl)))
  have hlk_18 := (htw (.fieldLink RX4 18 "ProofServer$Json" "sizes" "[I") (jWr_3 _ (List.mem_of_getElem? (i := 23) rfl)))
  have hrg_a1 := jb_rng a1
  refine lv_iload_n hx hb dX4_sizeOf_0 rfl (lv_at hl 1 rfl) ?_
  refine lv_if_lt (tgt := 12) hx hb dX4_sizeOf_1 (by decide) (fun c_1 => ?_) (fun c_1 => ?_)
  · skip
    have c_1' : a1.toInt < 0 := jb_lt (rfl) ((by decide)) c_1
    refine lv_iconst (v := 0) hx hb dX4_sizeOf_12 (by decide) ?_
    refine lv_goto (tgt := 22) hx hb dX4_sizeOf_13 (by decide) ?_
    rw [hQ]
    exact W.iret (v := 0) hx hb hr (fun t ht hW => ⟨⟨0, (), rfl, trivial, hh.rt (M1 := []) [] rfl ht⟩, by rw [ht]; try exact hh.1.1, fun q h9 hq => by rw [ht]; try exact hh.1.2.1 q h9 hq⟩) hh.1.2.2 dX4_sizeOf_22
  · skip
    have c_1' : a1.toInt ≥ 0 := jb_lt_n (rfl) ((by decide)) c_1
    refine lv_iload_n hx hb dX4_sizeOf_4 rfl (lv_at hl 1 rfl) ?_
    refine lv_aload_n hx hb dX4_sizeOf_5 rfl (lv_at hl 0 rfl) ?_
    obtain ⟨v_2, hv_2, hh_3⟩ := hh.pin (C := RX4) (T := TX4) (N := 12) hB6 rfl (by decide) hg_r0 (i := 7) (by decide) rfl
    clear hh
    obtain ⟨values_4, rfl, hlovalues_4, hhivalues_4⟩ := hv_2
    refine j7_read hx hb hown hK (C := RX4) (T := TX4) (N := 12) rfl hly_6_7 hlk_50 (hh_3.at 0 rfl) dX4_sizeOf_6 ?_
    refine lv_icmp_lt (tgt := 16) hx hb dX4_sizeOf_9 (by decide) (fun c_5 => ?_) (fun c_5 => ?_)
    · skip
      have c_5' : a1.toInt < values_4.toInt := jb_lt (rfl) (rfl) c_5
      refine lv_aload_n hx hb dX4_sizeOf_16 rfl (lv_at hl 0 rfl) ?_
      obtain ⟨v_6, hv_6, hh_7⟩ := hh_3.pin (C := RX4) (T := TX4) (N := 12) hB6 rfl (by decide) hg_r0 (i := 2) (by decide) rfl
      clear hh_3
      obtain ⟨sizes_8, rfl, hg_sizes_8⟩ := hv_6
      refine j7_read hx hb hown hK (C := RX4) (T := TX4) (N := 12) rfl hly_6_2 hlk_18 (hh_7.at 0 rfl) dX4_sizeOf_17 ?_
      refine lv_iload_n hx hb dX4_sizeOf_20 rfl (lv_at hl 1 rfl) ?_
      refine j7_iald hx hb hK hh_7 hB142 1 rfl (by decide) hg_sizes_8 (x := a1.toInt) (rfl) (by omega) dX4_sizeOf_21 (fun z_9 (hz_9 : True) => ?_)
      rw [hQ]
      exact W.iret (v := z_9) hx hb hr (fun t ht hW => ⟨⟨z_9, (), rfl, trivial, hh_7.rt (M1 := []) [] rfl ht⟩, by rw [ht]; try exact hh_7.1.1, fun q h9 hq => by rw [ht]; try exact hh_7.1.2.1 q h9 hq⟩) hh_7.1.2.2 dX4_sizeOf_22
    · skip
      have c_5' : a1.toInt ≥ values_4.toInt := jb_lt_n (rfl) (rfl) c_5
      refine lv_iconst (v := 0) hx hb dX4_sizeOf_12 (by decide) ?_
      refine lv_goto (tgt := 22) hx hb dX4_sizeOf_13 (by decide) ?_
      rw [hQ]
      exact W.iret (v := 0) hx hb hr (fun t ht hW => ⟨⟨0, (), rfl, trivial, hh_3.rt (M1 := []) [] rfl ht⟩, by rw [ht]; try exact hh_3.1.1, fun q h9 hq => by rw [ht]; try exact hh_3.1.2.1 q h9 hq⟩) hh_3.1.2.2 dX4_sizeOf_22
set_option maxHeartbeats 4000000 in
set_option maxRecDepth 20000 in
theorem uX4_valueOf (l : Launch) (dC : Nat → ClassId) (dI : Nat → Nat → Nat) (ca : Nat → ClassId) (base : Nat) (B : jF) (hB : jBok B) (hAp : jAp (dC, dI)) (hB6 : ∀ n G a H, B 6 n G a H ↔ jOb (dC, dI) 6 12 (F6 n G) a H) (hB141 : ∀ n G a H, B 141 n G a H ↔ jAr (dC, dI) (ca 1) (fun j z => True) n a H) (G0 : jT) (H0 : Heap) (r0 : Nat) (a1 : Int32) : Met l yX4_valueOf (jw yX4_valueOf cX4_valueOf 2 (some .int)) ({ frames := 0, cells := 0, slots := 0, locals := 0 }) (va_Pc [.ref r0, .int a1] (fun U => U.heap = H0 ∧ jX B base G0 [] H0 ∧ jG dC dI ca base U ∧ G0 r0 = some (6, 0) ∧ jP (dC, dI) G0 H0 [] ∧ True)) (va_Qi (S := Unit) (fun r u => (True)) (fun u t => jRt (dC, dI) B base G0 EX4_valueOf H0 [] t.heap) (jA base)) 0 0 (jA base) := by
  refine Met.ofW (cc := cX4_valueOf) (maxL := 2) (ret := (some .int)) (by decide) rfl ?_
  intro p e s m args below meth c s₁ Bd hml hv
  obtain ⟨rfl, hH0, hX, hG, hg_r0, hP0, hp0⟩ := hv
  have hK := hG.1
  have hx := Bd.exec
  have hb := Bd.bytes
  have hr := Bd.returns
  have hts := atoms_spec (ws := (jw yX4_valueOf cX4_valueOf 2 (some .int))) Bd.pre
  have htw : ∀ w ∈ jWl, w.before _ s = true := fun w h => hts w (List.mem_cons_of_mem _ h)
  have hown : s.vm.findClass RX4 = some m.cls := findClass_of_methodNamed Bd.named
  have hlocks := Bd.notSynchronized
  obtain ⟨Q, hQ⟩ : ∃ Q, Q = MQ below (va_Qi (S := Unit) (fun r u => (True)) (fun u t => jRt (dC, dI) B base G0 EX4_valueOf H0 [] t.heap) (jA base)) ([.ref r0, .int a1] : List Value).toArray s 0 0 (jA base) := ⟨_, rfl⟩
  rw [← hQ]
  have hl := lv_entry ([.ref r0, .int a1]) (n := 2) (Nat.le_of_ble_eq_true rfl)
  rw [lg_entry_eq]
  generalize (lg_sl ([.ref r0, .int a1]) ++ List.replicate (2 - (lg_sl ([.ref r0, .int a1])).length) Slot.unset).toArray = ls at hl ⊢
  have hl : lv_has ls 2 [(0, .ref r0), (1, .int a1)] := hl
  generalize hR : (headSpec (jw yX4_valueOf cX4_valueOf 2 (some .int)) ({ frames := 0, cells := 0, slots := 0, locals := 0 })).room = R
  subst hH0
  have hh : jSt (dC, dI) B base G0 G0 EX4_valueOf s.heap 0 0 [] [] [] s.heap [] := jSt.start hX hP0 jMc.nil jIs.nil
  clear hX hP0
  have hk0 : (0 : Int32).toInt = 0 := by decide
  have hk1 : (1 : Int32).toInt = 1 := by decide
  have hly_6_1 := htw (u_lay RX4 TX4 1) (jWc_wsX40 _ (u_in_lay (by decide)))
  have hly_6_7 := htw (u_lay RX4 TX4 7) (jWc_wsX40 _ (u_in_lay (by decide)))
  have hlk_50 := (htw (.fieldLink RX4 50 "ProofServer$Json" "values" "I") (jWr_19 _ (List.mem_of_getElem? (i := 13) rfl)))
  have hlk_15 := (htw (.fieldLink RX4 15 "ProofServer$Json" "firsts" "[I") (jWr_3 _ (List.mem_of_getElem? (i := 22) rfl)))
  have hrg_a1 := jb_rng a1
  refine lv_iload_n hx hb dX4_valueOf_0 rfl (lv_at hl 1 rfl) ?_
  refine lv_if_lt (tgt := 12) hx hb dX4_valueOf_1 (by decide) (fun c_1 => ?_) (fun c_1 => ?_)
  · skip
    have c_1' : a1.toInt < 0 := jb_lt (rfl) ((by decide)) c_1
    refine lv_iconst (v := 0) hx hb dX4_valueOf_12 (by decide) ?_
    refine lv_goto (tgt := 22) hx hb dX4_valueOf_13 (by decide) ?_
    rw [hQ]
    exact W.iret (v := 0) hx hb hr (fun t ht hW => ⟨⟨0, (), rfl, trivial, hh.rt (M1 := []) [] rfl ht⟩, by rw [ht]; try exact hh.1.1, fun q h9 hq => by rw [ht]; try exact hh.1.2.1 q h9 hq⟩) hh.1.2.2 dX4_valueOf_22
  · skip
    have c_1' : a1.toInt ≥ 0 := jb_lt_n (rfl) ((by decide)) c_1
    refine lv_iload_n hx hb dX4_valueOf_4 rfl (lv_at hl 1 rfl) ?_
    refine lv_aload_n hx hb dX4_valueOf_5 rfl (lv_at hl 0 rfl) ?_
    obtain ⟨v_2, hv_2, hh_3⟩ := hh.pin (C := RX4) (T := TX4) (N := 12) hB6 rfl (by decide) hg_r0 (i := 7) (by decide) rfl
    clear hh
    obtain ⟨values_4, rfl, hlovalues_4, hhivalues_4⟩ := hv_2
    refine j7_read hx hb hown hK (C := RX4) (T := TX4) (N := 12) rfl hly_6_7 hlk_50 (hh_3.at 0 rfl) dX4_valueOf_6 ?_
    refine lv_icmp_lt (tgt := 16) hx hb dX4_valueOf_9 (by decide) (fun c_5 => ?_) (fun c_5 => ?_)
    · skip
      have c_5' : a1.toInt < values_4.toInt := jb_lt (rfl) (rfl) c_5
      refine lv_aload_n hx hb dX4_valueOf_16 rfl (lv_at hl 0 rfl) ?_
      obtain ⟨v_6, hv_6, hh_7⟩ := hh_3.pin (C := RX4) (T := TX4) (N := 12) hB6 rfl (by decide) hg_r0 (i := 1) (by decide) rfl
      clear hh_3
      obtain ⟨firsts_8, rfl, hg_firsts_8⟩ := hv_6
      refine j7_read hx hb hown hK (C := RX4) (T := TX4) (N := 12) rfl hly_6_1 hlk_15 (hh_7.at 0 rfl) dX4_valueOf_17 ?_
      refine lv_iload_n hx hb dX4_valueOf_20 rfl (lv_at hl 1 rfl) ?_
      refine j7_iald hx hb hK hh_7 hB141 1 rfl (by decide) hg_firsts_8 (x := a1.toInt) (rfl) (by omega) dX4_valueOf_21 (fun z_9 (hz_9 : True) => ?_)
      rw [hQ]
      exact W.iret (v := z_9) hx hb hr (fun t ht hW => ⟨⟨z_9, (), rfl, trivial, hh_7.rt (M1 := []) [] rfl ht⟩, by rw [ht]; try exact hh_7.1.1, fun q h9 hq => by rw [ht]; try exact hh_7.1.2.1 q h9 hq⟩) hh_7.1.2.2 dX4_valueOf_22
    · skip
      have c_5' : a1.toInt ≥ values_4.toInt := jb_lt_n (rfl) (rfl) c_5
      refine lv_iconst (v := 0) hx hb dX4_valueOf_12 (by decide) ?_
      refine lv_goto (tgt := 22) hx hb dX4_valueOf_13 (by decide) ?_
      rw [hQ]
      exact W.iret (v := 0) hx hb hr (fun t ht hW => ⟨⟨0, (), rfl, trivial, hh_3.rt (M1 := []) [] rfl ht⟩, by rw [ht]; try exact hh_3.1.1, fun q h9 hq => by rw [ht]; try exact hh_3.1.2.1 q h9 hq⟩) hh_3.1.2.2 dX4_valueOf_22
set_option maxHeartbeats 4000000 in
set_option maxRecDepth 20000 in
theorem uX4_firstOf (l : Launch) (dC : Nat → ClassId) (dI : Nat → Nat → Nat) (ca : Nat → ClassId) (base : Nat) (B : jF) (hB : jBok B) (hAp : jAp (dC, dI)) (hB6 : ∀ n G a H, B 6 n G a H ↔ jOb (dC, dI) 6 12 (F6 n G) a H) (hB141 : ∀ n G a H, B 141 n G a H ↔ jAr (dC, dI) (ca 1) (fun j z => True) n a H) (G0 : jT) (H0 : Heap) (r0 : Nat) (a1 : Int32) : Met l yX4_firstOf (jw yX4_firstOf cX4_firstOf 2 (some .int)) ({ frames := 0, cells := 0, slots := 0, locals := 0 }) (va_Pc [.ref r0, .int a1] (fun U => U.heap = H0 ∧ jX B base G0 [] H0 ∧ jG dC dI ca base U ∧ G0 r0 = some (6, 0) ∧ jP (dC, dI) G0 H0 [] ∧ True)) (va_Qi (S := Unit) (fun r u => (True)) (fun u t => jRt (dC, dI) B base G0 EX4_firstOf H0 [] t.heap) (jA base)) 0 0 (jA base) := by
  refine Met.ofW (cc := cX4_firstOf) (maxL := 2) (ret := (some .int)) (by decide) rfl ?_
  intro p e s m args below meth c s₁ Bd hml hv
  obtain ⟨rfl, hH0, hX, hG, hg_r0, hP0, hp0⟩ := hv
  have hK := hG.1
  have hx := Bd.exec
  have hb := Bd.bytes
  have hr := Bd.returns
  have hts := atoms_spec (ws := (jw yX4_firstOf cX4_firstOf 2 (some .int))) Bd.pre
  have htw : ∀ w ∈ jWl, w.before _ s = true := fun w h => hts w (List.mem_cons_of_mem _ h)
  have hown : s.vm.findClass RX4 = some m.cls := findClass_of_methodNamed Bd.named
  have hlocks := Bd.notSynchronized
  obtain ⟨Q, hQ⟩ : ∃ Q, Q = MQ below (va_Qi (S := Unit) (fun r u => (True)) (fun u t => jRt (dC, dI) B base G0 EX4_firstOf H0 [] t.heap) (jA base)) ([.ref r0, .int a1] : List Value).toArray s 0 0 (jA base) := ⟨_, rfl⟩
  rw [← hQ]
  have hl := lv_entry ([.ref r0, .int a1]) (n := 2) (Nat.le_of_ble_eq_true rfl)
  rw [lg_entry_eq]
  generalize (lg_sl ([.ref r0, .int a1]) ++ List.replicate (2 - (lg_sl ([.ref r0, .int a1])).length) Slot.unset).toArray = ls at hl ⊢
  have hl : lv_has ls 2 [(0, .ref r0), (1, .int a1)] := hl
  generalize hR : (headSpec (jw yX4_firstOf cX4_firstOf 2 (some .int)) ({ frames := 0, cells := 0, slots := 0, locals := 0 })).room = R
  subst hH0
  have hh : jSt (dC, dI) B base G0 G0 EX4_firstOf s.heap 0 0 [] [] [] s.heap [] := jSt.start hX hP0 jMc.nil jIs.nil
  clear hX hP0
  have hkm1 : ((-1) : Int32).toInt = (-1) := by decide
  have hk0 : (0 : Int32).toInt = 0 := by decide
  have hk1 : (1 : Int32).toInt = 1 := by decide
  have hly_6_1 := htw (u_lay RX4 TX4 1) (jWc_wsX40 _ (u_in_lay (by decide)))
  have hly_6_7 := htw (u_lay RX4 TX4 7) (jWc_wsX40 _ (u_in_lay (by decide)))
  have hlk_50 := (htw (.fieldLink RX4 50 "ProofServer$Json" "values" "I") (jWr_19 _ (List.mem_of_getElem? (i := 13) rfl)))
  have hlk_15 := (htw (.fieldLink RX4 15 "ProofServer$Json" "firsts" "[I") (jWr_3 _ (List.mem_of_getElem? (i := 22) rfl)))
  have hrg_a1 := jb_rng a1
  refine lv_iload_n hx hb dX4_firstOf_0 rfl (lv_at hl 1 rfl) ?_
  refine lv_if_lt (tgt := 12) hx hb dX4_firstOf_1 (by decide) (fun c_1 => ?_) (fun c_1 => ?_)
  · skip
    have c_1' : a1.toInt < 0 := jb_lt (rfl) ((by decide)) c_1
    refine lv_iconst (v := (-1)) hx hb dX4_firstOf_12 (by decide) ?_
    refine lv_goto (tgt := 22) hx hb dX4_firstOf_13 (by decide) ?_
    rw [hQ]
    exact W.iret (v := (-1)) hx hb hr (fun t ht hW => ⟨⟨(-1), (), rfl, trivial, hh.rt (M1 := []) [] rfl ht⟩, by rw [ht]; try exact hh.1.1, fun q h9 hq => by rw [ht]; try exact hh.1.2.1 q h9 hq⟩) hh.1.2.2 dX4_firstOf_22
  · skip
    have c_1' : a1.toInt ≥ 0 := jb_lt_n (rfl) ((by decide)) c_1
    refine lv_iload_n hx hb dX4_firstOf_4 rfl (lv_at hl 1 rfl) ?_
    refine lv_aload_n hx hb dX4_firstOf_5 rfl (lv_at hl 0 rfl) ?_
    obtain ⟨v_2, hv_2, hh_3⟩ := hh.pin (C := RX4) (T := TX4) (N := 12) hB6 rfl (by decide) hg_r0 (i := 7) (by decide) rfl
    clear hh
    obtain ⟨values_4, rfl, hlovalues_4, hhivalues_4⟩ := hv_2
    refine j7_read hx hb hown hK (C := RX4) (T := TX4) (N := 12) rfl hly_6_7 hlk_50 (hh_3.at 0 rfl) dX4_firstOf_6 ?_
    refine lv_icmp_lt (tgt := 16) hx hb dX4_firstOf_9 (by decide) (fun c_5 => ?_) (fun c_5 => ?_)
    · skip
      have c_5' : a1.toInt < values_4.toInt := jb_lt (rfl) (rfl) c_5
      refine lv_aload_n hx hb dX4_firstOf_16 rfl (lv_at hl 0 rfl) ?_
      obtain ⟨v_6, hv_6, hh_7⟩ := hh_3.pin (C := RX4) (T := TX4) (N := 12) hB6 rfl (by decide) hg_r0 (i := 1) (by decide) rfl
      clear hh_3
      obtain ⟨firsts_8, rfl, hg_firsts_8⟩ := hv_6
      refine j7_read hx hb hown hK (C := RX4) (T := TX4) (N := 12) rfl hly_6_1 hlk_15 (hh_7.at 0 rfl) dX4_firstOf_17 ?_
      refine lv_iload_n hx hb dX4_firstOf_20 rfl (lv_at hl 1 rfl) ?_
      refine j7_iald hx hb hK hh_7 hB141 1 rfl (by decide) hg_firsts_8 (x := a1.toInt) (rfl) (by omega) dX4_firstOf_21 (fun z_9 (hz_9 : True) => ?_)
      rw [hQ]
      exact W.iret (v := z_9) hx hb hr (fun t ht hW => ⟨⟨z_9, (), rfl, trivial, hh_7.rt (M1 := []) [] rfl ht⟩, by rw [ht]; try exact hh_7.1.1, fun q h9 hq => by rw [ht]; try exact hh_7.1.2.1 q h9 hq⟩) hh_7.1.2.2 dX4_firstOf_22
    · skip
      have c_5' : a1.toInt ≥ values_4.toInt := jb_lt_n (rfl) (rfl) c_5
      refine lv_iconst (v := (-1)) hx hb dX4_firstOf_12 (by decide) ?_
      refine lv_goto (tgt := 22) hx hb dX4_firstOf_13 (by decide) ?_
      rw [hQ]
      exact W.iret (v := (-1)) hx hb hr (fun t ht hW => ⟨⟨(-1), (), rfl, trivial, hh_3.rt (M1 := []) [] rfl ht⟩, by rw [ht]; try exact hh_3.1.1, fun q h9 hq => by rw [ht]; try exact hh_3.1.2.1 q h9 hq⟩) hh_3.1.2.2 dX4_firstOf_22
set_option maxHeartbeats 4000000 in
set_option maxRecDepth 20000 in
theorem uX4_nextOf (l : Launch) (dC : Nat → ClassId) (dI : Nat → Nat → Nat) (ca : Nat → ClassId) (base : Nat) (B : jF) (hB : jBok B) (hAp : jAp (dC, dI)) (hB6 : ∀ n G a H, B 6 n G a H ↔ jOb (dC, dI) 6 12 (F6 n G) a H) (hB143 : ∀ n G a H, B 143 n G a H ↔ jAr (dC, dI) (ca 1) (fun j z => True) n a H) (G0 : jT) (H0 : Heap) (r0 : Nat) (a1 : Int32) : Met l yX4_nextOf (jw yX4_nextOf cX4_nextOf 2 (some .int)) ({ frames := 0, cells := 0, slots := 0, locals := 0 }) (va_Pc [.ref r0, .int a1] (fun U => U.heap = H0 ∧ jX B base G0 [] H0 ∧ jG dC dI ca base U ∧ G0 r0 = some (6, 0) ∧ jP (dC, dI) G0 H0 [] ∧ True)) (va_Qi (S := Unit) (fun r u => (True)) (fun u t => jRt (dC, dI) B base G0 EX4_nextOf H0 [] t.heap) (jA base)) 0 0 (jA base) := by
  refine Met.ofW (cc := cX4_nextOf) (maxL := 2) (ret := (some .int)) (by decide) rfl ?_
  intro p e s m args below meth c s₁ Bd hml hv
  obtain ⟨rfl, hH0, hX, hG, hg_r0, hP0, hp0⟩ := hv
  have hK := hG.1
  have hx := Bd.exec
  have hb := Bd.bytes
  have hr := Bd.returns
  have hts := atoms_spec (ws := (jw yX4_nextOf cX4_nextOf 2 (some .int))) Bd.pre
  have htw : ∀ w ∈ jWl, w.before _ s = true := fun w h => hts w (List.mem_cons_of_mem _ h)
  have hown : s.vm.findClass RX4 = some m.cls := findClass_of_methodNamed Bd.named
  have hlocks := Bd.notSynchronized
  obtain ⟨Q, hQ⟩ : ∃ Q, Q = MQ below (va_Qi (S := Unit) (fun r u => (True)) (fun u t => jRt (dC, dI) B base G0 EX4_nextOf H0 [] t.heap) (jA base)) ([.ref r0, .int a1] : List Value).toArray s 0 0 (jA base) := ⟨_, rfl⟩
  rw [← hQ]
  have hl := lv_entry ([.ref r0, .int a1]) (n := 2) (Nat.le_of_ble_eq_true rfl)
  rw [lg_entry_eq]
  generalize (lg_sl ([.ref r0, .int a1]) ++ List.replicate (2 - (lg_sl ([.ref r0, .int a1])).length) Slot.unset).toArray = ls at hl ⊢
  have hl : lv_has ls 2 [(0, .ref r0), (1, .int a1)] := hl
  generalize hR : (headSpec (jw yX4_nextOf cX4_nextOf 2 (some .int)) ({ frames := 0, cells := 0, slots := 0, locals := 0 })).room = R
  subst hH0
  have hh : jSt (dC, dI) B base G0 G0 EX4_nextOf s.heap 0 0 [] [] [] s.heap [] := jSt.start hX hP0 jMc.nil jIs.nil
  clear hX hP0
  have hkm1 : ((-1) : Int32).toInt = (-1) := by decide
  have hk0 : (0 : Int32).toInt = 0 := by decide
  have hk1 : (1 : Int32).toInt = 1 := by decide
  have hly_6_3 := htw (u_lay RX4 TX4 3) (jWc_wsX40 _ (u_in_lay (by decide)))
  have hly_6_7 := htw (u_lay RX4 TX4 7) (jWc_wsX40 _ (u_in_lay (by decide)))
  have hlk_50 := (htw (.fieldLink RX4 50 "ProofServer$Json" "values" "I") (jWr_19 _ (List.mem_of_getElem? (i := 13) rfl)))
  have hlk_21 := (htw (.fieldLink RX4 21 "ProofServer$Json" "nexts" "[I") (jWr_4 _ (List.mem_of_getElem? (i := 0) rfl)))
  have hrg_a1 := jb_rng a1
  refine lv_iload_n hx hb dX4_nextOf_0 rfl (lv_at hl 1 rfl) ?_
  refine lv_if_lt (tgt := 12) hx hb dX4_nextOf_1 (by decide) (fun c_1 => ?_) (fun c_1 => ?_)
  · skip
    have c_1' : a1.toInt < 0 := jb_lt (rfl) ((by decide)) c_1
    refine lv_iconst (v := (-1)) hx hb dX4_nextOf_12 (by decide) ?_
    refine lv_goto (tgt := 22) hx hb dX4_nextOf_13 (by decide) ?_
    rw [hQ]
    exact W.iret (v := (-1)) hx hb hr (fun t ht hW => ⟨⟨(-1), (), rfl, trivial, hh.rt (M1 := []) [] rfl ht⟩, by rw [ht]; try exact hh.1.1, fun q h9 hq => by rw [ht]; try exact hh.1.2.1 q h9 hq⟩) hh.1.2.2 dX4_nextOf_22
  · skip
    have c_1' : a1.toInt ≥ 0 := jb_lt_n (rfl) ((by decide)) c_1
    refine lv_iload_n hx hb dX4_nextOf_4 rfl (lv_at hl 1 rfl) ?_
    refine lv_aload_n hx hb dX4_nextOf_5 rfl (lv_at hl 0 rfl) ?_
    obtain ⟨v_2, hv_2, hh_3⟩ := hh.pin (C := RX4) (T := TX4) (N := 12) hB6 rfl (by decide) hg_r0 (i := 7) (by decide) rfl
    clear hh
    obtain ⟨values_4, rfl, hlovalues_4, hhivalues_4⟩ := hv_2
    refine j7_read hx hb hown hK (C := RX4) (T := TX4) (N := 12) rfl hly_6_7 hlk_50 (hh_3.at 0 rfl) dX4_nextOf_6 ?_
    refine lv_icmp_lt (tgt := 16) hx hb dX4_nextOf_9 (by decide) (fun c_5 => ?_) (fun c_5 => ?_)
    · skip
      have c_5' : a1.toInt < values_4.toInt := jb_lt (rfl) (rfl) c_5
      refine lv_aload_n hx hb dX4_nextOf_16 rfl (lv_at hl 0 rfl) ?_
      obtain ⟨v_6, hv_6, hh_7⟩ := hh_3.pin (C := RX4) (T := TX4) (N := 12) hB6 rfl (by decide) hg_r0 (i := 3) (by decide) rfl
      clear hh_3
      obtain ⟨nexts_8, rfl, hg_nexts_8⟩ := hv_6
      refine j7_read hx hb hown hK (C := RX4) (T := TX4) (N := 12) rfl hly_6_3 hlk_21 (hh_7.at 0 rfl) dX4_nextOf_17 ?_
      refine lv_iload_n hx hb dX4_nextOf_20 rfl (lv_at hl 1 rfl) ?_
      refine j7_iald hx hb hK hh_7 hB143 1 rfl (by decide) hg_nexts_8 (x := a1.toInt) (rfl) (by omega) dX4_nextOf_21 (fun z_9 (hz_9 : True) => ?_)
      rw [hQ]
      exact W.iret (v := z_9) hx hb hr (fun t ht hW => ⟨⟨z_9, (), rfl, trivial, hh_7.rt (M1 := []) [] rfl ht⟩, by rw [ht]; try exact hh_7.1.1, fun q h9 hq => by rw [ht]; try exact hh_7.1.2.1 q h9 hq⟩) hh_7.1.2.2 dX4_nextOf_22
    · skip
      have c_5' : a1.toInt ≥ values_4.toInt := jb_lt_n (rfl) (rfl) c_5
      refine lv_iconst (v := (-1)) hx hb dX4_nextOf_12 (by decide) ?_
      refine lv_goto (tgt := 22) hx hb dX4_nextOf_13 (by decide) ?_
      rw [hQ]
      exact W.iret (v := (-1)) hx hb hr (fun t ht hW => ⟨⟨(-1), (), rfl, trivial, hh_3.rt (M1 := []) [] rfl ht⟩, by rw [ht]; try exact hh_3.1.1, fun q h9 hq => by rw [ht]; try exact hh_3.1.2.1 q h9 hq⟩) hh_3.1.2.2 dX4_nextOf_22
set_option maxHeartbeats 4000000 in
set_option maxRecDepth 20000 in
theorem uX4_areUnits (l : Launch) (dC : Nat → ClassId) (dI : Nat → Nat → Nat) (ca : Nat → ClassId) (base : Nat) (B : jF) (hB : jBok B) (hAp : jAp (dC, dI)) (hB6 : ∀ n G a H, B 6 n G a H ↔ jOb (dC, dI) 6 12 (F6 n G) a H) (hB146 : ∀ n G a H, B 146 n G a H ↔ jAr (dC, dI) (ca 1) (fun j z => True) n a H) (G0 : jT) (H0 : Heap) (r0 : Nat) (a1 : Int32) (a2 : Int32) (r3 : Nat) (n3 : Nat) : Met l yX4_areUnits (jw yX4_areUnits cX4_areUnits 5 (some .boolean)) ({ frames := 4, cells := 0, slots := 0, locals := 141 }) (va_Pc [.ref r0, .int a1, .int a2, .ref r3] (fun U => U.heap = H0 ∧ jX B base G0 [] H0 ∧ jG dC dI ca base U ∧ jStr base r3 n3 U H0 ∧ G0 r0 = some (6, 0) ∧ jP (dC, dI) G0 H0 [] ∧ a1.toInt ≤ 1000000 ∧ n3 ≤ 1000)) (va_Qi (S := Unit) (fun r u => (r = 0 ∨ r = 1) ∧ (True)) (fun u t => jRt (dC, dI) B base G0 EX4_areUnits H0 [] t.heap) (jA base)) 0 0 (jA base) := by
  refine Met.ofW (cc := cX4_areUnits) (maxL := 5) (ret := (some .boolean)) (by decide) rfl ?_
  intro p e s m args below meth c s₁ Bd hml hv
  obtain ⟨rfl, hH0, hX, hG, hstr_r3, hg_r0, hP0, hp0, hp1⟩ := hv
  have hK := hG.1
  have hx := Bd.exec
  have hb := Bd.bytes
  have hr := Bd.returns
  have hts := atoms_spec (ws := (jw yX4_areUnits cX4_areUnits 5 (some .boolean))) Bd.pre
  have htw : ∀ w ∈ jWl, w.before _ s = true := fun w h => hts w (List.mem_cons_of_mem _ h)
  have hown : s.vm.findClass RX4 = some m.cls := findClass_of_methodNamed Bd.named
  have hlocks := Bd.notSynchronized
  obtain ⟨Q, hQ⟩ : ∃ Q, Q = MQ below (va_Qi (S := Unit) (fun r u => (r = 0 ∨ r = 1) ∧ (True)) (fun u t => jRt (dC, dI) B base G0 EX4_areUnits H0 [] t.heap) (jA base)) ([.ref r0, .int a1, .int a2, .ref r3] : List Value).toArray s 0 0 (jA base) := ⟨_, rfl⟩
  rw [← hQ]
  have hl := lv_entry ([.ref r0, .int a1, .int a2, .ref r3]) (n := 5) (Nat.le_of_ble_eq_true rfl)
  rw [lg_entry_eq]
  generalize (lg_sl ([.ref r0, .int a1, .int a2, .ref r3]) ++ List.replicate (5 - (lg_sl ([.ref r0, .int a1, .int a2, .ref r3])).length) Slot.unset).toArray = ls at hl ⊢
  have hl : lv_has ls 5 [(0, .ref r0), (1, .int a1), (2, .int a2), (3, .ref r3)] := hl
  generalize hR : (headSpec (jw yX4_areUnits cX4_areUnits 5 (some .boolean)) ({ frames := 4, cells := 0, slots := 0, locals := 141 })).room = R
  subst hH0
  have hh : jSt (dC, dI) B base G0 G0 EX4_areUnits s.heap 0 0 [] [] [] s.heap [] := jSt.start hX hP0 jMc.nil jIs.nil
  clear hX hP0
  have hk0 : (0 : Int32).toInt = 0 := by decide
  have hk1 : (1 : Int32).toInt = 1 := by decide
  have hly_6_6 := htw (u_lay RX4 TX4 6) (jWc_wsX40 _ (u_in_lay (by decide)))
  have hlk_30 := (htw (.fieldLink RX4 30 "ProofServer$Json" "units" "[I") (jWr_4 _ (List.mem_of_getElem? (i := 3) rfl)))
  have hrg_a1 := jb_rng a1
  have hrg_a2 := jb_rng a2
  refine lv_iload_n hx hb dX4_areUnits_0 rfl (lv_at hl 2 rfl) ?_
  refine lv_aload_n hx hb dX4_areUnits_1 rfl (lv_at hl 3 rfl) ?_
  refine vp_callSi (W.runV (As := []) (rest := [.int a2]) ⟨hx, hb, hml, hown, hts⟩ (wJ0_length_8abf5 l dC dI ca base s.heap r3 n3) (cwV 0 hts (jgV (jWr_20 _ (List.mem_of_getElem? (i := 23) rfl)) (jWr_5 _ (List.mem_of_getElem? (i := 13) rfl)) (jWr_5 _ (List.mem_of_getElem? (i := 14) rfl)) (jWr_5 _ (List.mem_of_getElem? (i := 15) rfl)) (jWr_5 _ (List.mem_of_getElem? (i := 16) rfl))) rfl rfl rfl (by decide +kernel) ⟨by rw [← hR]; exact Nat.le_of_ble_eq_true rfl, by rw [← hR]; exact Nat.le_of_ble_eq_true rfl⟩) ⟨fun a U g mk q => by obtain ⟨q0, q1, q2, qK, q9⟩ := q; exact ⟨q0, q1, (q2.moved (Vm.Alike.refl U.vm)), jG.calling g mk a qK, q9⟩, jStr_recv hstr_r3 hh.1, fun U hU hW => ⟨rfl, hU, (hstr_r3.moved hW.alike).kept hh.1.2.1, hG.step hW hU hh.1, by omega⟩⟩ rfl rfl hl.1 rfl (lv_room (Nat.le_of_ble_eq_true rfl)) dX4_areUnits_2 ⟨Nat.zero_le _, Nat.zero_le _⟩) (fun r_1 hr_1 => ?_)
  refine lv_icmp_ne (tgt := 23) hx hb dX4_areUnits_5 (by decide) (fun c_2 => ?_) (fun c_2 => ?_)
  · skip
    have c_2' : a2.toInt ≠ r_1.toInt := jb_ne (rfl) (rfl) c_2
    refine lv_iconst (v := 0) hx hb dX4_areUnits_23 (by decide) ?_
    rw [hQ]
    exact W.zret (v := 0) hx hb hr (jb_nz (Or.inl rfl)) (fun t ht hW => ⟨⟨0, (), rfl, ⟨(Or.inl rfl), trivial⟩, hh.rt (M1 := []) [] rfl ht⟩, by rw [ht]; try exact hh.1.1, fun q h9 hq => by rw [ht]; try exact hh.1.2.1 q h9 hq⟩) hh.1.2.2 dX4_areUnits_24
  · skip
    have c_2' : a2.toInt = r_1.toInt := jb_ne_n (rfl) (rfl) c_2
    refine lv_iload_n hx hb dX4_areUnits_8 rfl (lv_at hl 1 rfl) ?_
    refine lv_if_lt (tgt := 23) hx hb dX4_areUnits_9 (by decide) (fun c_3 => ?_) (fun c_3 => ?_)
    · skip
      have c_3' : a1.toInt < 0 := jb_lt (rfl) ((by decide)) c_3
      refine lv_iconst (v := 0) hx hb dX4_areUnits_23 (by decide) ?_
      rw [hQ]
      exact W.zret (v := 0) hx hb hr (jb_nz (Or.inl rfl)) (fun t ht hW => ⟨⟨0, (), rfl, ⟨(Or.inl rfl), trivial⟩, hh.rt (M1 := []) [] rfl ht⟩, by rw [ht]; try exact hh.1.1, fun q h9 hq => by rw [ht]; try exact hh.1.2.1 q h9 hq⟩) hh.1.2.2 dX4_areUnits_24
    · skip
      have c_3' : a1.toInt ≥ 0 := jb_lt_n (rfl) ((by decide)) c_3
      refine lv_iload_n hx hb dX4_areUnits_12 rfl (lv_at hl 1 rfl) ?_
      refine lv_iload_n hx hb dX4_areUnits_13 rfl (lv_at hl 2 rfl) ?_
      refine lv_iadd hx hb dX4_areUnits_14 ?_
      refine lv_topi (fun z_4 ez_4 => ?_)
      have hz_4 : z_4.toInt = a1.toInt + a2.toInt := by rw [ez_4]; exact jb_iadd2 (rfl) (rfl) (by omega)
      refine lv_aload_n hx hb dX4_areUnits_15 rfl (lv_at hl 0 rfl) ?_
      obtain ⟨v_5, hv_5, hh_6⟩ := hh.pin (C := RX4) (T := TX4) (N := 12) hB6 rfl (by decide) hg_r0 (i := 6) (by decide) rfl
      clear hh
      obtain ⟨units_7, rfl, hg_units_7⟩ := hv_5
      refine j7_read hx hb hown hK (C := RX4) (T := TX4) (N := 12) rfl hly_6_6 hlk_30 (hh_6.at 0 rfl) dX4_areUnits_16 ?_
      refine j7_len hx hb hK hh_6 hB146 1 rfl (by decide) hg_units_7 (by omega) dX4_areUnits_19 (fun z_8 hz_8 => ?_)
      refine lv_icmp_le (tgt := 25) hx hb dX4_areUnits_20 (by decide) (fun c_9 => ?_) (fun c_9 => ?_)
      · skip
        have c_9' : z_4.toInt ≤ z_8.toInt := jb_le (rfl) (rfl) c_9
        refine lv_iconst (v := 0) hx hb dX4_areUnits_25 (by decide) ?_
        refine lv_istore (lv' := [(4, .int 0), (0, .ref r0), (1, .int a1), (2, .int a2), (3, .ref r3)]) hx hb dX4_areUnits_26 hl (by decide) rfl (fun ls hl => ?_)
        have L28 : ∀ (N : Nat) (v4_10 : Int32) (H_10 : Heap) (locs_10 : List Loc), jSt (dC, dI) B base G0 G0 EX4_areUnits s.heap 0 0 [(r0, 6, 6, .ref units_7)] [] [] H_10 locs_10 → (0 ≤ v4_10.toInt) → (((a2.toInt - v4_10.toInt).toNat : Int) : Int) < N → ∀ ls : Array Slot, lv_has ls 5 [(0, .ref r0), (1, .int a1), (2, .int a2), (3, .ref r3), (4, .int v4_10)] → W p l e R s m ([.ref r0, .int a1, .int a2, .ref r3] : List Value).toArray below meth c H_10 locs_10 0 0 Q (F0 m 28 ls []) := by
          intro N
          induction N with
          | zero => intro v4_10 H_10 locs_10 hh_10  hi_10 hm; exact absurd hm (by omega)
          | succ N L28 =>
            intro v4_10 H_10 locs_10 hh_10  hi_10 hm_10 ls hl
            refine lv_iload hx hb dX4_areUnits_28 (lv_at hl 4 rfl) ?_
            refine lv_iload_n hx hb dX4_areUnits_30 rfl (lv_at hl 2 rfl) ?_
            refine lv_icmp_ge (tgt := 60) hx hb dX4_areUnits_31 (by decide) (fun c_11 => ?_) (fun c_11 => ?_)
            · skip
              have c_11' : v4_10.toInt ≥ a2.toInt := jb_ge (rfl) (rfl) c_11
              refine lv_iconst (v := 1) hx hb dX4_areUnits_60 (by decide) ?_
              rw [hQ]
              exact W.zret (v := 1) hx hb hr (jb_nz (Or.inr rfl)) (fun t ht hW => ⟨⟨1, (), rfl, ⟨(Or.inr rfl), trivial⟩, hh_10.rt (M1 := []) [] rfl ht⟩, by rw [ht]; try exact hh_10.1.1, fun q h9 hq => by rw [ht]; try exact hh_10.1.2.1 q h9 hq⟩) hh_10.1.2.2 dX4_areUnits_61
            · skip
              have c_11' : v4_10.toInt < a2.toInt := jb_ge_n (rfl) (rfl) c_11
              refine lv_aload_n hx hb dX4_areUnits_34 rfl (lv_at hl 0 rfl) ?_
              refine j7_read hx hb hown hK (C := RX4) (T := TX4) (N := 12) rfl hly_6_6 hlk_30 (hh_10.at 0 rfl) dX4_areUnits_35 ?_
              refine lv_iload_n hx hb dX4_areUnits_38 rfl (lv_at hl 1 rfl) ?_
              refine lv_iload hx hb dX4_areUnits_39 (lv_at hl 4 rfl) ?_
              refine lv_iadd hx hb dX4_areUnits_41 ?_
              refine lv_topi (fun z_12 ez_12 => ?_)
              have hz_12 : z_12.toInt = a1.toInt + v4_10.toInt := by rw [ez_12]; exact jb_iadd2 (rfl) (rfl) (by omega)
              refine j7_iald hx hb hK hh_10 hB146 1 rfl (by decide) hg_units_7 (x := z_12.toInt) (rfl) (by omega) dX4_areUnits_42 (fun z_13 (hz_13 : True) => ?_)
              refine lv_aload_n hx hb dX4_areUnits_43 rfl (lv_at hl 3 rfl) ?_
              refine lv_iload hx hb dX4_areUnits_44 (lv_at hl 4 rfl) ?_
              refine vp_callSi (W.runV (As := [.int v4_10]) (rest := [.int z_13]) ⟨hx, hb, hml, hown, hts⟩ (wJ0_charAt_5068e l dC dI ca base H_10 r3 n3 v4_10) (cwV 1 hts (jgV (jWr_21 _ (List.mem_of_getElem? (i := 0) rfl)) (jWr_6 _ (List.mem_of_getElem? (i := 1) rfl)) (jWr_6 _ (List.mem_of_getElem? (i := 2) rfl)) (jWr_5 _ (List.mem_of_getElem? (i := 15) rfl)) (jWr_6 _ (List.mem_of_getElem? (i := 3) rfl))) rfl rfl rfl (by decide +kernel) ⟨by rw [← hR]; exact Nat.le_of_ble_eq_true rfl, by rw [← hR]; exact Nat.le_of_ble_eq_true rfl⟩) ⟨fun a U g mk q => by obtain ⟨q0, q1, q2, qK, q9⟩ := q; exact ⟨q0, q1, (q2.moved (Vm.Alike.refl U.vm)), jG.calling g mk a qK, q9⟩, jStr_recv hstr_r3 hh_10.1, fun U hU hW => ⟨rfl, hU, (hstr_r3.moved hW.alike).kept hh_10.1.2.1, hG.step hW hU hh_10.1, ⟨by omega, by omega, by omega⟩⟩⟩ rfl rfl hl.1 rfl (lv_room (Nat.le_of_ble_eq_true rfl)) dX4_areUnits_46 ⟨Nat.zero_le _, Nat.zero_le _⟩) (fun r_14 hr_14 => ?_)
              refine lv_icmp_eq (tgt := 54) hx hb dX4_areUnits_49 (by decide) (fun c_15 => ?_) (fun c_15 => ?_)
              · skip
                have c_15' : z_13.toInt = r_14.toInt := jb_eq (rfl) (rfl) c_15
                obtain ⟨z_16, ez_16⟩ : ∃ y : Int32, y = v4_10 + 1 := ⟨_, rfl⟩
                refine lv_iinc (v := z_16) (lv' := [(4, .int z_16), (0, .ref r0), (1, .int a1), (2, .int a2), (3, .ref r3)]) hx hb dX4_areUnits_54 hl (k := 4) rfl (by rw [ez_16]; rfl) (by decide) rfl (fun ls hl => ?_)
                have hz_16 : z_16.toInt = v4_10.toInt + 1 := by rw [ez_16]; exact jb_iadd2 (rfl) (by decide) (by omega)
                refine lv_goto (tgt := 28) hx hb dX4_areUnits_57 (by decide) ?_
                exact L28 z_16 _ _ hh_10 (by first | omega | rfl | assumption | decide | exact Or.inl rfl | exact Or.inr rfl | (simp only; omega)) (by omega) _ (lv_sub hl [1, 2, 3, 4, 0] rfl)
              · skip
                have c_15' : z_13.toInt ≠ r_14.toInt := jb_eq_n (rfl) (rfl) c_15
                refine lv_iconst (v := 0) hx hb dX4_areUnits_52 (by decide) ?_
                rw [hQ]
                exact W.zret (v := 0) hx hb hr (jb_nz (Or.inl rfl)) (fun t ht hW => ⟨⟨0, (), rfl, ⟨(Or.inl rfl), trivial⟩, hh_10.rt (M1 := []) [] rfl ht⟩, by rw [ht]; try exact hh_10.1.1, fun q h9 hq => by rw [ht]; try exact hh_10.1.2.1 q h9 hq⟩) hh_10.1.2.2 dX4_areUnits_53
        exact L28 (((a2.toInt - (0 : Int32).toInt).toNat : Int) : Int).toNat.succ 0 _ _ hh_6 (by first | omega | rfl | assumption | decide | exact Or.inl rfl | exact Or.inr rfl | (simp only; omega)) (by omega) _ (lv_sub hl [1, 2, 3, 4, 0] rfl)
      · skip
        have c_9' : z_4.toInt > z_8.toInt := jb_le_n (rfl) (rfl) c_9
        refine lv_iconst (v := 0) hx hb dX4_areUnits_23 (by decide) ?_
        rw [hQ]
        exact W.zret (v := 0) hx hb hr (jb_nz (Or.inl rfl)) (fun t ht hW => ⟨⟨0, (), rfl, ⟨(Or.inl rfl), trivial⟩, hh_6.rt (M1 := []) [] rfl ht⟩, by rw [ht]; try exact hh_6.1.1, fun q h9 hq => by rw [ht]; try exact hh_6.1.2.1 q h9 hq⟩) hh_6.1.2.2 dX4_areUnits_24
set_option maxHeartbeats 4000000 in
set_option maxRecDepth 20000 in
theorem uX4_member (l : Launch) (dC : Nat → ClassId) (dI : Nat → Nat → Nat) (ca : Nat → ClassId) (base : Nat) (B : jF) (hB : jBok B) (hAp : jAp (dC, dI)) (hB6 : ∀ n G a H, B 6 n G a H ↔ jOb (dC, dI) 6 12 (F6 n G) a H) (hB140 : ∀ n G a H, B 140 n G a H ↔ jAr (dC, dI) (ca 1) (fun j z => True) n a H) (hB141 : ∀ n G a H, B 141 n G a H ↔ jAr (dC, dI) (ca 1) (fun j z => True) n a H) (hB142 : ∀ n G a H, B 142 n G a H ↔ jAr (dC, dI) (ca 1) (fun j z => True) n a H) (hB143 : ∀ n G a H, B 143 n G a H ↔ jAr (dC, dI) (ca 1) (fun j z => True) n a H) (hB144 : ∀ n G a H, B 144 n G a H ↔ jAr (dC, dI) (ca 1) (fun j z => 0 ≤ z.toInt ∧ z.toInt ≤ 3000) n a H) (hB145 : ∀ n G a H, B 145 n G a H ↔ jAr (dC, dI) (ca 1) (fun j z => True) n a H) (hB146 : ∀ n G a H, B 146 n G a H ↔ jAr (dC, dI) (ca 1) (fun j z => True) n a H) (G0 : jT) (H0 : Heap) (r0 : Nat) (a1 : Int32) (r2 : Nat) (n2 : Nat) : Met l yX4_member (jw yX4_member cX4_member 6 (some .int)) ({ frames := 5, cells := 0, slots := 0, locals := 165 }) (va_Pc [.ref r0, .int a1, .ref r2] (fun U => U.heap = H0 ∧ jX B base G0 [] H0 ∧ jG dC dI ca base U ∧ jStr base r2 n2 U H0 ∧ G0 r0 = some (6, 0) ∧ jP (dC, dI) G0 H0 [] ∧ n2 ≤ 1000)) (va_Qi (S := Unit) (fun r u => (-1 ≤ r.toInt ∧ r.toInt ≤ 1501)) (fun u t => jRt (dC, dI) B base G0 EX4_member H0 [] t.heap) (jA base)) 0 0 (jA base) := by
  refine Met.ofW (cc := cX4_member) (maxL := 6) (ret := (some .int)) (by decide) rfl ?_
  intro p e s m args below meth c s₁ Bd hml hv
  obtain ⟨rfl, hH0, hX, hG, hstr_r2, hg_r0, hP0, hp0⟩ := hv
  have hK := hG.1
  have hx := Bd.exec
  have hb := Bd.bytes
  have hr := Bd.returns
  have hts := atoms_spec (ws := (jw yX4_member cX4_member 6 (some .int))) Bd.pre
  have htw : ∀ w ∈ jWl, w.before _ s = true := fun w h => hts w (List.mem_cons_of_mem _ h)
  have hown : s.vm.findClass RX4 = some m.cls := findClass_of_methodNamed Bd.named
  have hlocks := Bd.notSynchronized
  obtain ⟨Q, hQ⟩ : ∃ Q, Q = MQ below (va_Qi (S := Unit) (fun r u => (-1 ≤ r.toInt ∧ r.toInt ≤ 1501)) (fun u t => jRt (dC, dI) B base G0 EX4_member H0 [] t.heap) (jA base)) ([.ref r0, .int a1, .ref r2] : List Value).toArray s 0 0 (jA base) := ⟨_, rfl⟩
  rw [← hQ]
  have hl := lv_entry ([.ref r0, .int a1, .ref r2]) (n := 6) (Nat.le_of_ble_eq_true rfl)
  rw [lg_entry_eq]
  generalize (lg_sl ([.ref r0, .int a1, .ref r2]) ++ List.replicate (6 - (lg_sl ([.ref r0, .int a1, .ref r2])).length) Slot.unset).toArray = ls at hl ⊢
  have hl : lv_has ls 6 [(0, .ref r0), (1, .int a1), (2, .ref r2)] := hl
  generalize hR : (headSpec (jw yX4_member cX4_member 6 (some .int)) ({ frames := 5, cells := 0, slots := 0, locals := 165 })).room = R
  subst hH0
  have hh : jSt (dC, dI) B base G0 G0 EX4_member s.heap 0 0 [] [] [] s.heap [] := jSt.start hX hP0 jMc.nil jIs.nil
  clear hX hP0
  have hkm1 : ((-1) : Int32).toInt = (-1) := by decide
  have hk0 : (0 : Int32).toInt = 0 := by decide
  have hk1 : (1 : Int32).toInt = 1 := by decide
  have hly_6_1 := htw (u_lay RX4 TX4 1) (jWc_wsX40 _ (u_in_lay (by decide)))
  have hly_6_2 := htw (u_lay RX4 TX4 2) (jWc_wsX40 _ (u_in_lay (by decide)))
  have hly_6_3 := htw (u_lay RX4 TX4 3) (jWc_wsX40 _ (u_in_lay (by decide)))
  have hly_6_4 := htw (u_lay RX4 TX4 4) (jWc_wsX40 _ (u_in_lay (by decide)))
  have hly_6_5 := htw (u_lay RX4 TX4 5) (jWc_wsX40 _ (u_in_lay (by decide)))
  have hly_6_7 := htw (u_lay RX4 TX4 7) (jWc_wsX40 _ (u_in_lay (by decide)))
  have hlk_15 := (htw (.fieldLink RX4 15 "ProofServer$Json" "firsts" "[I") (jWr_3 _ (List.mem_of_getElem? (i := 22) rfl)))
  have hlk_18 := (htw (.fieldLink RX4 18 "ProofServer$Json" "sizes" "[I") (jWr_3 _ (List.mem_of_getElem? (i := 23) rfl)))
  have hlk_50 := (htw (.fieldLink RX4 50 "ProofServer$Json" "values" "I") (jWr_19 _ (List.mem_of_getElem? (i := 13) rfl)))
  have hlk_24 := (htw (.fieldLink RX4 24 "ProofServer$Json" "keyFirsts" "[I") (jWr_4 _ (List.mem_of_getElem? (i := 1) rfl)))
  have hlk_27 := (htw (.fieldLink RX4 27 "ProofServer$Json" "keySizes" "[I") (jWr_4 _ (List.mem_of_getElem? (i := 2) rfl)))
  have hlk_21 := (htw (.fieldLink RX4 21 "ProofServer$Json" "nexts" "[I") (jWr_4 _ (List.mem_of_getElem? (i := 0) rfl)))
  have hrg_a1 := jb_rng a1
  refine lv_aload_n hx hb dX4_member_0 rfl (lv_at hl 0 rfl) ?_
  refine lv_iload_n hx hb dX4_member_1 rfl (lv_at hl 1 rfl) ?_
  obtain ⟨v_3, hv_3, hh_4⟩ := hh.pin (C := RX4) (T := TX4) (N := 12) hB6 rfl (by decide) hg_r0 (i := 7) (by decide) rfl
  obtain ⟨values_5, rfl, hlovalues_5, hhivalues_5⟩ := hv_3
  refine va_calli (A0 := jA base) (H0 := s.heap) (va_runV (As := [.int a1]) (rest := []) ⟨hx, hb, hml, hown, hts⟩ (uX4_kindOf l dC dI ca base B hB hAp hB6 hB140 G0 s.heap r0 a1 values_5) (cwV 1 hts (jgV (jWr_23 _ (List.mem_of_getElem? (i := 14) rfl)) (jWr_23 _ (List.mem_of_getElem? (i := 15) rfl)) (jWr_23 _ (List.mem_of_getElem? (i := 16) rfl)) (jWr_1 _ (List.mem_of_getElem? (i := 22) rfl)) (jWr_23 _ (List.mem_of_getElem? (i := 17) rfl))) rfl rfl rfl (by decide +kernel) ⟨by rw [← hR]; exact Nat.le_of_ble_eq_true rfl, by rw [← hR]; exact Nat.le_of_ble_eq_true rfl⟩) ⟨fun a U g mk q => by obtain ⟨q0, q1, q2, qK, q10, q11, q12⟩ := q; exact ⟨q0, q1, q2, jG.calling g mk a qK, q10, q11, q12⟩, hh_4.recv (C := RX4) (T := TX4) (N := 12) hB6 rfl (by decide) hg_r0 hK, fun U hU hW => ⟨rfl, hU, hh_4.2.1, hG.step hW hU hh_4.1, hg_r0, (hh_4.2.2.1.sub (L1 := [(r0, 6, 7, .int values_5)]) [0] rfl), by first | omega | (refine ⟨?_, ?_⟩ <;> (first | omega | rfl | assumption | decide | exact Or.inl rfl | exact Or.inr rfl | (simp only; omega)))⟩⟩ rfl rfl hl.1 rfl (lv_room (Nat.le_of_ble_eq_true rfl)) dX4_member_2 ⟨Nat.zero_le _, Nat.zero_le _⟩) hh_4.1 (fun q _ h => h) (fun q h => h) (fun r_2 u_1 t_1 H_1 locs_1 ht_1 hvm_1 hr_2 hb_1 hz_1 hk_1 hS_1 => ?_)
  rw [ht_1] at hb_1
  obtain ⟨hb_11, hb_12, hb_13, hb_14, hb_15⟩ := hb_1
  have hh_1 : jSt (dC, dI) B base G0 G0 EX4_member s.heap 0 0 [(r0, 6, 7, .int values_5)] [] [] H_1 locs_1 := ((hh_4.call hb_11 hb_12 hb_13 hb_14 hS_1 rfl (L1 := [(r0, 6, 7, .int values_5)]) [0] rfl rfl (M1 := []) [] rfl rfl (I1 := []) [] rfl rfl).more hb_15)
  clear hh_4 ht_1 hvm_1 hz_1 hk_1 hS_1 hb_11 hb_12 hb_13 hb_14 hb_15
  refine lv_iconst (v := 1) hx hb dX4_member_5 (by decide) ?_
  refine lv_icmp_eq (tgt := 11) hx hb dX4_member_6 (by decide) (fun c_6 => ?_) (fun c_6 => ?_)
  · skip
    have c_6' : r_2.toInt = 1 := jb_eq (rfl) ((by decide)) c_6
    first | (have hr_2q := hr_2.resolve_left (by omega); clear hr_2) | (have hr_2q := hr_2.resolve_right (by omega); clear hr_2) | try clear hr_2
    refine lv_iconst (v := (-1)) hx hb dX4_member_11 (by decide) ?_
    refine lv_istore_n (lv' := [(3, .int (-1)), (0, .ref r0), (1, .int a1), (2, .ref r2)]) hx hb dX4_member_12 rfl hl (by decide) rfl (fun ls hl => ?_)
    refine lv_aload_n hx hb dX4_member_13 rfl (lv_at hl 1 rfl) ?_
    obtain ⟨v_7, hv_7, hh_8⟩ := hh_1.pin (C := RX4) (T := TX4) (N := 12) hB6 rfl (by decide) hg_r0 (i := 1) (by decide) rfl
    clear hh_1
    obtain ⟨firsts_9, rfl, hg_firsts_9⟩ := hv_7
    refine j7_read hx hb hown hK (C := RX4) (T := TX4) (N := 12) rfl hly_6_1 hlk_15 (hh_8.at 0 rfl) dX4_member_14 ?_
    refine lv_iload_n hx hb dX4_member_17 rfl (lv_at hl 2 rfl) ?_
    refine j7_iald hx hb hK hh_8 hB141 1 rfl (by decide) hg_firsts_9 (x := a1.toInt) (rfl) (by omega) dX4_member_18 (fun z_10 (hz_10 : True) => ?_)
    refine lv_istore (lv' := [(4, .int z_10), (3, .int (-1)), (0, .ref r0), (1, .int a1), (2, .ref r2)]) hx hb dX4_member_19 hl (by decide) rfl (fun ls hl => ?_)
    refine lv_iconst (v := 0) hx hb dX4_member_21 (by decide) ?_
    refine lv_istore (lv' := [(5, .int 0), (4, .int z_10), (3, .int (-1)), (0, .ref r0), (1, .int a1), (2, .ref r2)]) hx hb dX4_member_22 hl (by decide) rfl (fun ls hl => ?_)
    obtain ⟨v_11, hv_11, hh_12⟩ := hh_8.pin (C := RX4) (T := TX4) (N := 12) hB6 rfl (by decide) hg_r0 (i := 2) (by decide) rfl
    obtain ⟨sizes_13, rfl, hg_sizes_13⟩ := hv_11
    obtain ⟨f_sizes_14, hh_14⟩ := hh_12.cpin hB142 (by decide) (by decide) hg_sizes_13
    clear hh_12
    have L24 : ∀ (N : Nat) (v3_15 : Int32) (v4_15 : Int32) (v5_15 : Int32) (H_15 : Heap) (locs_15 : List Loc), jSt (dC, dI) B base G0 G0 EX4_member s.heap 0 0 [(r0, 6, 2, .ref sizes_13), (r0, 6, 1, .ref firsts_9), (r0, 6, 7, .int values_5)] [(sizes_13, 142, 1502, ca 1, f_sizes_14)] [] H_15 locs_15 → (0 ≤ v5_15.toInt ∧ -1 ≤ v3_15.toInt ∧ v3_15.toInt ≤ 1501) → ((((f_sizes_14 (a1.toInt).toNat).toInt - v5_15.toInt).toNat : Int) : Int) < N → ∀ ls : Array Slot, lv_has ls 6 [(0, .ref r0), (1, .int a1), (2, .ref r2), (3, .int v3_15), (4, .int v4_15), (5, .int v5_15)] → W p l e R s m ([.ref r0, .int a1, .ref r2] : List Value).toArray below meth c H_15 locs_15 0 0 Q (F0 m 24 ls []) := by
      intro N
      induction N with
      | zero => intro v3_15 v4_15 v5_15 H_15 locs_15 hh_15  hi_15 hm; exact absurd hm (by omega)
      | succ N L24 =>
        intro v3_15 v4_15 v5_15 H_15 locs_15 hh_15  hi_15 hm_15 ls hl
        obtain ⟨hi_15_0, hi_15_1, hi_15_2⟩ := hi_15
        have hrs := jb_rng (f_sizes_14 (a1.toInt).toNat)
        refine lv_iload hx hb dX4_member_24 (lv_at hl 5 rfl) ?_
        refine lv_aload_n hx hb dX4_member_26 rfl (lv_at hl 0 rfl) ?_
        refine j7_read hx hb hown hK (C := RX4) (T := TX4) (N := 12) rfl hly_6_2 hlk_18 (hh_15.at 0 rfl) dX4_member_27 ?_
        refine lv_iload_n hx hb dX4_member_30 rfl (lv_at hl 1 rfl) ?_
        refine j7_ialdM hx hb hK hh_15 hB142 1 rfl (by decide) hg_sizes_13 (x := a1.toInt) (rfl) (by omega) (j := 0) rfl dX4_member_31 (fun z_16 ez_16 (hz_16 : True) => ?_)
        have hqz_16 : z_16.toInt = (f_sizes_14 (a1.toInt).toNat).toInt := by rw [ez_16]
        refine lv_icmp_ge (tgt := 89) hx hb dX4_member_32 (by decide) (fun c_17 => ?_) (fun c_17 => ?_)
        · skip
          have c_17' : v5_15.toInt ≥ z_16.toInt := jb_ge (rfl) (rfl) c_17
          refine lv_iload_n hx hb dX4_member_89 rfl (lv_at hl 3 rfl) ?_
          rw [hQ]
          exact W.iret (v := v3_15) hx hb hr (fun t ht hW => ⟨⟨v3_15, (), rfl, by first | omega | (refine ⟨?_, ?_⟩ <;> (first | omega | rfl | assumption | decide | exact Or.inl rfl | exact Or.inr rfl | (simp only; omega))), hh_15.rt (M1 := []) [] rfl ht⟩, by rw [ht]; try exact hh_15.1.1, fun q h9 hq => by rw [ht]; try exact hh_15.1.2.1 q h9 hq⟩) hh_15.1.2.2 dX4_member_90
        · skip
          have c_17' : v5_15.toInt < z_16.toInt := jb_ge_n (rfl) (rfl) c_17
          refine lv_iload hx hb dX4_member_35 (lv_at hl 4 rfl) ?_
          refine lv_if_lt (tgt := 89) hx hb dX4_member_37 (by decide) (fun c_18 => ?_) (fun c_18 => ?_)
          · skip
            have c_18' : v4_15.toInt < 0 := jb_lt (rfl) ((by decide)) c_18
            refine lv_iload_n hx hb dX4_member_89 rfl (lv_at hl 3 rfl) ?_
            rw [hQ]
            exact W.iret (v := v3_15) hx hb hr (fun t ht hW => ⟨⟨v3_15, (), rfl, by first | omega | (refine ⟨?_, ?_⟩ <;> (first | omega | rfl | assumption | decide | exact Or.inl rfl | exact Or.inr rfl | (simp only; omega))), hh_15.rt (M1 := []) [] rfl ht⟩, by rw [ht]; try exact hh_15.1.1, fun q h9 hq => by rw [ht]; try exact hh_15.1.2.1 q h9 hq⟩) hh_15.1.2.2 dX4_member_90
          · skip
            have c_18' : v4_15.toInt ≥ 0 := jb_lt_n (rfl) ((by decide)) c_18
            refine lv_iload hx hb dX4_member_40 (lv_at hl 4 rfl) ?_
            refine lv_aload_n hx hb dX4_member_42 rfl (lv_at hl 0 rfl) ?_
            refine j7_read hx hb hown hK (C := RX4) (T := TX4) (N := 12) rfl hly_6_7 hlk_50 (hh_15.at 2 rfl) dX4_member_43 ?_
            refine lv_icmp_ge (tgt := 89) hx hb dX4_member_46 (by decide) (fun c_19 => ?_) (fun c_19 => ?_)
            · skip
              have c_19' : v4_15.toInt ≥ values_5.toInt := jb_ge (rfl) (rfl) c_19
              refine lv_iload_n hx hb dX4_member_89 rfl (lv_at hl 3 rfl) ?_
              rw [hQ]
              exact W.iret (v := v3_15) hx hb hr (fun t ht hW => ⟨⟨v3_15, (), rfl, by first | omega | (refine ⟨?_, ?_⟩ <;> (first | omega | rfl | assumption | decide | exact Or.inl rfl | exact Or.inr rfl | (simp only; omega))), hh_15.rt (M1 := []) [] rfl ht⟩, by rw [ht]; try exact hh_15.1.1, fun q h9 hq => by rw [ht]; try exact hh_15.1.2.1 q h9 hq⟩) hh_15.1.2.2 dX4_member_90
            · skip
              have c_19' : v4_15.toInt < values_5.toInt := jb_ge_n (rfl) (rfl) c_19
              refine lv_aload_n hx hb dX4_member_49 rfl (lv_at hl 0 rfl) ?_
              refine lv_aload_n hx hb dX4_member_50 rfl (lv_at hl 0 rfl) ?_
              obtain ⟨v_20, hv_20, hh_21⟩ := hh_15.pin (C := RX4) (T := TX4) (N := 12) hB6 rfl (by decide) hg_r0 (i := 4) (by decide) rfl
              clear hh_15
              obtain ⟨keyFirsts_22, rfl, hg_keyFirsts_22⟩ := hv_20
              refine j7_read hx hb hown hK (C := RX4) (T := TX4) (N := 12) rfl hly_6_4 hlk_24 (hh_21.at 0 rfl) dX4_member_51 ?_
              refine lv_iload hx hb dX4_member_54 (lv_at hl 4 rfl) ?_
              refine j7_iald hx hb hK hh_21 hB144 1 rfl (by decide) hg_keyFirsts_22 (x := v4_15.toInt) (rfl) (by omega) dX4_member_56 (fun z_23 (hz_23 : 0 ≤ z_23.toInt ∧ z_23.toInt ≤ 3000) => ?_)
              refine lv_aload_n hx hb dX4_member_57 rfl (lv_at hl 0 rfl) ?_
              obtain ⟨v_24, hv_24, hh_25⟩ := hh_21.pin (C := RX4) (T := TX4) (N := 12) hB6 rfl (by decide) hg_r0 (i := 5) (by decide) rfl
              clear hh_21
              obtain ⟨keySizes_26, rfl, hg_keySizes_26⟩ := hv_24
              refine j7_read hx hb hown hK (C := RX4) (T := TX4) (N := 12) rfl hly_6_5 hlk_27 (hh_25.at 0 rfl) dX4_member_58 ?_
              refine lv_iload hx hb dX4_member_61 (lv_at hl 4 rfl) ?_
              refine j7_iald hx hb hK hh_25 hB145 1 rfl (by decide) hg_keySizes_26 (x := v4_15.toInt) (rfl) (by omega) dX4_member_63 (fun z_27 (hz_27 : True) => ?_)
              refine lv_aload_n hx hb dX4_member_64 rfl (lv_at hl 2 rfl) ?_
              refine va_calli (A0 := jA base) (H0 := s.heap) (va_runV (As := [.int z_23, .int z_27, .ref r2]) (rest := []) ⟨hx, hb, hml, hown, hts⟩ (uX4_areUnits l dC dI ca base B hB hAp hB6 hB146 G0 H_15 r0 z_23 z_27 r2 n2) (cwV 3 hts (jgV (jWr_23 _ (List.mem_of_getElem? (i := 18) rfl)) (jWr_23 _ (List.mem_of_getElem? (i := 19) rfl)) (jWr_23 _ (List.mem_of_getElem? (i := 20) rfl)) (jWr_1 _ (List.mem_of_getElem? (i := 22) rfl)) (jWr_23 _ (List.mem_of_getElem? (i := 21) rfl))) rfl rfl rfl (by decide +kernel) ⟨by rw [← hR]; exact Nat.le_of_ble_eq_true rfl, by rw [← hR]; exact Nat.le_of_ble_eq_true rfl⟩) ⟨fun a U g mk q => by obtain ⟨q0, q1, q2, qK, q10, q11, q12, q13⟩ := q; exact ⟨q0, q1, q2, jG.calling g mk a qK, (q10.moved (Vm.Alike.refl U.vm)), q11, q12, q13⟩, hh_25.recv (C := RX4) (T := TX4) (N := 12) hB6 rfl (by decide) hg_r0 hK, fun U hU hW => ⟨rfl, hU, hh_25.2.1, hG.step hW hU hh_25.1, (hstr_r2.moved hW.alike).kept hh_25.1.2.1, hg_r0, jP.nil, by first | omega | (refine ⟨?_, ?_⟩ <;> (first | omega | rfl | assumption | decide | exact Or.inl rfl | exact Or.inr rfl | (simp only; omega)))⟩⟩ rfl rfl hl.1 rfl (lv_room (Nat.le_of_ble_eq_true rfl)) dX4_member_65 ⟨Nat.zero_le _, Nat.zero_le _⟩) hh_25.1 (fun q _ h => h) (fun q h => h) (fun r_29 u_28 t_28 H_28 locs_28 ht_28 hvm_28 hr_29 hb_28 hz_28 hk_28 hS_28 => ?_)
              rw [ht_28] at hb_28
              obtain ⟨hb_281, hb_282, hb_283, hb_284, hb_285⟩ := hb_28
              have hh_28 : jSt (dC, dI) B base G0 G0 EX4_member s.heap 0 0 [(r0, 6, 5, .ref keySizes_26), (r0, 6, 4, .ref keyFirsts_22), (r0, 6, 2, .ref sizes_13), (r0, 6, 1, .ref firsts_9), (r0, 6, 7, .int values_5)] [(sizes_13, 142, 1502, ca 1, f_sizes_14)] [] H_28 locs_28 := ((hh_25.call hb_281 hb_282 hb_283 hb_284 hS_28 rfl (L1 := [(r0, 6, 5, .ref keySizes_26), (r0, 6, 4, .ref keyFirsts_22), (r0, 6, 2, .ref sizes_13), (r0, 6, 1, .ref firsts_9), (r0, 6, 7, .int values_5)]) [0, 1, 2, 3, 4] rfl rfl (M1 := [(sizes_13, 142, 1502, ca 1, f_sizes_14)]) [0] rfl rfl (I1 := []) [] rfl rfl).more hb_285)
              clear hh_25 ht_28 hvm_28 hz_28 hk_28 hS_28 hb_281 hb_282 hb_283 hb_284 hb_285
              obtain ⟨hr_29b, hr_29p⟩ := hr_29
              have hr_29' := jb_01 hr_29b
              refine lv_if_eq (tgt := 74) hx hb dX4_member_68 (by decide) (fun c_30 => ?_) (fun c_30 => ?_)
              · skip
                have c_30' : r_29.toInt = 0 := jb_eq (rfl) ((by decide)) c_30
                refine lv_aload_n hx hb dX4_member_74 rfl (lv_at hl 0 rfl) ?_
                obtain ⟨v_31, hv_31, hh_32⟩ := hh_28.pin (C := RX4) (T := TX4) (N := 12) hB6 rfl (by decide) hg_r0 (i := 3) (by decide) rfl
                clear hh_28
                obtain ⟨nexts_33, rfl, hg_nexts_33⟩ := hv_31
                refine j7_read hx hb hown hK (C := RX4) (T := TX4) (N := 12) rfl hly_6_3 hlk_21 (hh_32.at 0 rfl) dX4_member_75 ?_
                refine lv_iload hx hb dX4_member_78 (lv_at hl 4 rfl) ?_
                refine j7_iald hx hb hK hh_32 hB143 1 rfl (by decide) hg_nexts_33 (x := v4_15.toInt) (rfl) (by omega) dX4_member_80 (fun z_34 (hz_34 : True) => ?_)
                refine lv_istore (lv' := [(4, .int z_34), (0, .ref r0), (1, .int a1), (2, .ref r2), (3, .int v3_15), (5, .int v5_15)]) hx hb dX4_member_81 hl (by decide) rfl (fun ls hl => ?_)
                obtain ⟨z_35, ez_35⟩ : ∃ y : Int32, y = v5_15 + 1 := ⟨_, rfl⟩
                refine lv_iinc (v := z_35) (lv' := [(5, .int z_35), (4, .int z_34), (0, .ref r0), (1, .int a1), (2, .ref r2), (3, .int v3_15)]) hx hb dX4_member_83 hl (k := 5) rfl (by rw [ez_35]; rfl) (by decide) rfl (fun ls hl => ?_)
                have hz_35 : z_35.toInt = v5_15.toInt + 1 := by rw [ez_35]; exact jb_iadd2 (rfl) (by decide) (by omega)
                refine lv_goto (tgt := 24) hx hb dX4_member_86 (by decide) ?_
                exact L24 v3_15 z_34 z_35 _ _ (hh_32.sub (L1 := [(r0, 6, 2, .ref sizes_13), (r0, 6, 1, .ref firsts_9), (r0, 6, 7, .int values_5)]) [3, 4, 5] rfl (M1 := [(sizes_13, 142, 1502, ca 1, f_sizes_14)]) [0] rfl (I1 := []) [] rfl) (by first | omega | (refine ⟨?_, ?_, ?_⟩ <;> (first | omega | rfl | assumption | decide | exact Or.inl rfl | exact Or.inr rfl | (simp only; omega)))) (by omega) _ (lv_sub hl [2, 3, 4, 5, 1, 0] rfl)
              · skip
                have c_30' : r_29.toInt ≠ 0 := jb_eq_n (rfl) ((by decide)) c_30
                refine lv_iload hx hb dX4_member_71 (lv_at hl 4 rfl) ?_
                refine lv_istore_n (lv' := [(3, .int v4_15), (0, .ref r0), (1, .int a1), (2, .ref r2), (4, .int v4_15), (5, .int v5_15)]) hx hb dX4_member_73 rfl hl (by decide) rfl (fun ls hl => ?_)
                refine lv_aload_n hx hb dX4_member_74 rfl (lv_at hl 1 rfl) ?_
                obtain ⟨v_36, hv_36, hh_37⟩ := hh_28.pin (C := RX4) (T := TX4) (N := 12) hB6 rfl (by decide) hg_r0 (i := 3) (by decide) rfl
                clear hh_28
                obtain ⟨nexts_38, rfl, hg_nexts_38⟩ := hv_36
                refine j7_read hx hb hown hK (C := RX4) (T := TX4) (N := 12) rfl hly_6_3 hlk_21 (hh_37.at 0 rfl) dX4_member_75 ?_
                refine lv_iload hx hb dX4_member_78 (lv_at hl 4 rfl) ?_
                refine j7_iald hx hb hK hh_37 hB143 1 rfl (by decide) hg_nexts_38 (x := v4_15.toInt) (rfl) (by omega) dX4_member_80 (fun z_39 (hz_39 : True) => ?_)
                refine lv_istore (lv' := [(4, .int z_39), (3, .int v4_15), (0, .ref r0), (1, .int a1), (2, .ref r2), (5, .int v5_15)]) hx hb dX4_member_81 hl (by decide) rfl (fun ls hl => ?_)
                obtain ⟨z_40, ez_40⟩ : ∃ y : Int32, y = v5_15 + 1 := ⟨_, rfl⟩
                refine lv_iinc (v := z_40) (lv' := [(5, .int z_40), (4, .int z_39), (3, .int v4_15), (0, .ref r0), (1, .int a1), (2, .ref r2)]) hx hb dX4_member_83 hl (k := 5) rfl (by rw [ez_40]; rfl) (by decide) rfl (fun ls hl => ?_)
                have hz_40 : z_40.toInt = v5_15.toInt + 1 := by rw [ez_40]; exact jb_iadd2 (rfl) (by decide) (by omega)
                refine lv_goto (tgt := 24) hx hb dX4_member_86 (by decide) ?_
                exact L24 v4_15 z_39 z_40 _ _ (hh_37.sub (L1 := [(r0, 6, 2, .ref sizes_13), (r0, 6, 1, .ref firsts_9), (r0, 6, 7, .int values_5)]) [3, 4, 5] rfl (M1 := [(sizes_13, 142, 1502, ca 1, f_sizes_14)]) [0] rfl (I1 := []) [] rfl) (by first | omega | (refine ⟨?_, ?_, ?_⟩ <;> (first | omega | rfl | assumption | decide | exact Or.inl rfl | exact Or.inr rfl | (simp only; omega)))) (by omega) _ (lv_sub hl [3, 4, 5, 2, 1, 0] rfl)
    exact L24 ((((f_sizes_14 (a1.toInt).toNat).toInt - (0 : Int32).toInt).toNat : Int) : Int).toNat.succ (-1) z_10 0 _ _ hh_14 (by first | omega | (refine ⟨?_, ?_, ?_⟩ <;> (first | omega | rfl | assumption | decide | exact Or.inl rfl | exact Or.inr rfl | (simp only; omega)))) (by omega) _ (lv_sub hl [3, 4, 5, 2, 1, 0] rfl)
  · skip
    have c_6' : r_2.toInt ≠ 1 := jb_eq_n (rfl) ((by decide)) c_6
    try clear hr_2
    refine lv_iconst (v := (-1)) hx hb dX4_member_9 (by decide) ?_
    rw [hQ]
    exact W.iret (v := (-1)) hx hb hr (fun t ht hW => ⟨⟨(-1), (), rfl, by first | omega | (refine ⟨?_, ?_⟩ <;> (first | omega | rfl | assumption | decide | exact Or.inl rfl | exact Or.inr rfl | (simp only; omega))), hh_1.rt (M1 := []) [] rfl ht⟩, by rw [ht]; try exact hh_1.1.1, fun q h9 hq => by rw [ht]; try exact hh_1.1.2.1 q h9 hq⟩) hh_1.1.2.2 dX4_member_10
set_option maxHeartbeats 4000000 in
set_option maxRecDepth 20000 in
theorem uX4_unitAt (l : Launch) (dC : Nat → ClassId) (dI : Nat → Nat → Nat) (ca : Nat → ClassId) (base : Nat) (B : jF) (hB : jBok B) (hAp : jAp (dC, dI)) (hB6 : ∀ n G a H, B 6 n G a H ↔ jOb (dC, dI) 6 12 (F6 n G) a H) (hB140 : ∀ n G a H, B 140 n G a H ↔ jAr (dC, dI) (ca 1) (fun j z => True) n a H) (hB141 : ∀ n G a H, B 141 n G a H ↔ jAr (dC, dI) (ca 1) (fun j z => True) n a H) (hB142 : ∀ n G a H, B 142 n G a H ↔ jAr (dC, dI) (ca 1) (fun j z => True) n a H) (hB146 : ∀ n G a H, B 146 n G a H ↔ jAr (dC, dI) (ca 1) (fun j z => True) n a H) (G0 : jT) (H0 : Heap) (r0 : Nat) (a1 : Int32) (a2 : Int32) : Met l yX4_unitAt (jw yX4_unitAt cX4_unitAt 4 (some .int)) ({ frames := 1, cells := 0, slots := 0, locals := 21 }) (va_Pc [.ref r0, .int a1, .int a2] (fun U => U.heap = H0 ∧ jX B base G0 [] H0 ∧ jG dC dI ca base U ∧ G0 r0 = some (6, 0) ∧ jP (dC, dI) G0 H0 [] ∧ True)) (va_Qi (S := Unit) (fun r u => (True)) (fun u t => jRt (dC, dI) B base G0 EX4_unitAt H0 [] t.heap) (jA base)) 0 0 (jA base) := by
  refine Met.ofW (cc := cX4_unitAt) (maxL := 4) (ret := (some .int)) (by decide) rfl ?_
  intro p e s m args below meth c s₁ Bd hml hv
  obtain ⟨rfl, hH0, hX, hG, hg_r0, hP0, hp0⟩ := hv
  have hK := hG.1
  have hx := Bd.exec
  have hb := Bd.bytes
  have hr := Bd.returns
  have hts := atoms_spec (ws := (jw yX4_unitAt cX4_unitAt 4 (some .int))) Bd.pre
  have htw : ∀ w ∈ jWl, w.before _ s = true := fun w h => hts w (List.mem_cons_of_mem _ h)
  have hown : s.vm.findClass RX4 = some m.cls := findClass_of_methodNamed Bd.named
  have hlocks := Bd.notSynchronized
  obtain ⟨Q, hQ⟩ : ∃ Q, Q = MQ below (va_Qi (S := Unit) (fun r u => (True)) (fun u t => jRt (dC, dI) B base G0 EX4_unitAt H0 [] t.heap) (jA base)) ([.ref r0, .int a1, .int a2] : List Value).toArray s 0 0 (jA base) := ⟨_, rfl⟩
  rw [← hQ]
  have hl := lv_entry ([.ref r0, .int a1, .int a2]) (n := 4) (Nat.le_of_ble_eq_true rfl)
  rw [lg_entry_eq]
  generalize (lg_sl ([.ref r0, .int a1, .int a2]) ++ List.replicate (4 - (lg_sl ([.ref r0, .int a1, .int a2])).length) Slot.unset).toArray = ls at hl ⊢
  have hl : lv_has ls 4 [(0, .ref r0), (1, .int a1), (2, .int a2)] := hl
  generalize hR : (headSpec (jw yX4_unitAt cX4_unitAt 4 (some .int)) ({ frames := 1, cells := 0, slots := 0, locals := 21 })).room = R
  subst hH0
  have hh : jSt (dC, dI) B base G0 G0 EX4_unitAt s.heap 0 0 [] [] [] s.heap [] := jSt.start hX hP0 jMc.nil jIs.nil
  clear hX hP0
  have hkm1 : ((-1) : Int32).toInt = (-1) := by decide
  have hk0 : (0 : Int32).toInt = 0 := by decide
  have hk1 : (1 : Int32).toInt = 1 := by decide
  have hk3 : (3 : Int32).toInt = 3 := by decide
  have hly_6_1 := htw (u_lay RX4 TX4 1) (jWc_wsX40 _ (u_in_lay (by decide)))
  have hly_6_6 := htw (u_lay RX4 TX4 6) (jWc_wsX40 _ (u_in_lay (by decide)))
  have hlk_15 := (htw (.fieldLink RX4 15 "ProofServer$Json" "firsts" "[I") (jWr_3 _ (List.mem_of_getElem? (i := 22) rfl)))
  have hlk_30 := (htw (.fieldLink RX4 30 "ProofServer$Json" "units" "[I") (jWr_4 _ (List.mem_of_getElem? (i := 3) rfl)))
  have hrg_a1 := jb_rng a1
  have hrg_a2 := jb_rng a2
  refine lv_aload_n hx hb dX4_unitAt_0 rfl (lv_at hl 0 rfl) ?_
  refine lv_iload_n hx hb dX4_unitAt_1 rfl (lv_at hl 1 rfl) ?_
  obtain ⟨v_3, hv_3, hh_4⟩ := hh.pin (C := RX4) (T := TX4) (N := 12) hB6 rfl (by decide) hg_r0 (i := 7) (by decide) rfl
  obtain ⟨values_5, rfl, hlovalues_5, hhivalues_5⟩ := hv_3
  refine va_calli (A0 := jA base) (H0 := s.heap) (va_runV (As := [.int a1]) (rest := []) ⟨hx, hb, hml, hown, hts⟩ (uX4_kindOf l dC dI ca base B hB hAp hB6 hB140 G0 s.heap r0 a1 values_5) (cwV 1 hts (jgV (jWr_23 _ (List.mem_of_getElem? (i := 14) rfl)) (jWr_23 _ (List.mem_of_getElem? (i := 15) rfl)) (jWr_23 _ (List.mem_of_getElem? (i := 16) rfl)) (jWr_1 _ (List.mem_of_getElem? (i := 22) rfl)) (jWr_23 _ (List.mem_of_getElem? (i := 17) rfl))) rfl rfl rfl (by decide +kernel) ⟨by rw [← hR]; exact Nat.le_of_ble_eq_true rfl, by rw [← hR]; exact Nat.le_of_ble_eq_true rfl⟩) ⟨fun a U g mk q => by obtain ⟨q0, q1, q2, qK, q10, q11, q12⟩ := q; exact ⟨q0, q1, q2, jG.calling g mk a qK, q10, q11, q12⟩, hh_4.recv (C := RX4) (T := TX4) (N := 12) hB6 rfl (by decide) hg_r0 hK, fun U hU hW => ⟨rfl, hU, hh_4.2.1, hG.step hW hU hh_4.1, hg_r0, (hh_4.2.2.1.sub (L1 := [(r0, 6, 7, .int values_5)]) [0] rfl), by first | omega | (refine ⟨?_, ?_⟩ <;> (first | omega | rfl | assumption | decide | exact Or.inl rfl | exact Or.inr rfl | (simp only; omega)))⟩⟩ rfl rfl hl.1 rfl (lv_room (Nat.le_of_ble_eq_true rfl)) dX4_unitAt_2 ⟨Nat.zero_le _, Nat.zero_le _⟩) hh_4.1 (fun q _ h => h) (fun q h => h) (fun r_2 u_1 t_1 H_1 locs_1 ht_1 hvm_1 hr_2 hb_1 hz_1 hk_1 hS_1 => ?_)
  rw [ht_1] at hb_1
  obtain ⟨hb_11, hb_12, hb_13, hb_14, hb_15⟩ := hb_1
  have hh_1 : jSt (dC, dI) B base G0 G0 EX4_unitAt s.heap 0 0 [(r0, 6, 7, .int values_5)] [] [] H_1 locs_1 := ((hh_4.call hb_11 hb_12 hb_13 hb_14 hS_1 rfl (L1 := [(r0, 6, 7, .int values_5)]) [0] rfl rfl (M1 := []) [] rfl rfl (I1 := []) [] rfl rfl).more hb_15)
  clear hh_4 ht_1 hvm_1 hz_1 hk_1 hS_1 hb_11 hb_12 hb_13 hb_14 hb_15
  refine lv_iconst (v := 3) hx hb dX4_unitAt_5 (by decide) ?_
  refine lv_icmp_ne (tgt := 20) hx hb dX4_unitAt_6 (by decide) (fun c_6 => ?_) (fun c_6 => ?_)
  · skip
    have c_6' : r_2.toInt ≠ 3 := jb_ne (rfl) ((by decide)) c_6
    try clear hr_2
    refine lv_iconst (v := (-1)) hx hb dX4_unitAt_20 (by decide) ?_
    refine lv_istore_n (lv' := [(3, .int (-1)), (0, .ref r0), (1, .int a1), (2, .int a2)]) hx hb dX4_unitAt_21 rfl hl (by decide) rfl (fun ls hl => ?_)
    refine lv_iload_n hx hb dX4_unitAt_22 rfl (lv_at hl 3 rfl) ?_
    refine lv_if_lt (tgt := 48) hx hb dX4_unitAt_23 (by decide) (fun c_7 => ?_) (fun c_7 => ?_)
    · skip
      have c_7' : a2.toInt < 0 := jb_lt (rfl) ((by decide)) c_7
      refine lv_iconst (v := 0) hx hb dX4_unitAt_48 (by decide) ?_
      refine lv_goto (tgt := 58) hx hb dX4_unitAt_49 (by decide) ?_
      rw [hQ]
      exact W.iret (v := 0) hx hb hr (fun t ht hW => ⟨⟨0, (), rfl, trivial, hh_1.rt (M1 := []) [] rfl ht⟩, by rw [ht]; try exact hh_1.1.1, fun q h9 hq => by rw [ht]; try exact hh_1.1.2.1 q h9 hq⟩) hh_1.1.2.2 dX4_unitAt_58
    · skip
      have c_7' : a2.toInt ≥ 0 := jb_lt_n (rfl) ((by decide)) c_7
      refine lv_iload_n hx hb dX4_unitAt_26 rfl (lv_at hl 3 rfl) ?_
      refine lv_aload_n hx hb dX4_unitAt_27 rfl (lv_at hl 1 rfl) ?_
      refine lv_iload_n hx hb dX4_unitAt_28 rfl (lv_at hl 2 rfl) ?_
      refine va_calli (A0 := jA base) (H0 := s.heap) (va_runV (As := [.int a1]) (rest := [.int a2]) ⟨hx, hb, hml, hown, hts⟩ (uX4_sizeOf l dC dI ca base B hB hAp hB6 hB142 G0 H_1 r0 a1) (cwV 1 hts (jgV (jWr_25 _ (List.mem_of_getElem? (i := 8) rfl)) (jWr_24 _ (List.mem_of_getElem? (i := 7) rfl)) (jWr_24 _ (List.mem_of_getElem? (i := 8) rfl)) (jWr_1 _ (List.mem_of_getElem? (i := 22) rfl)) (jWr_24 _ (List.mem_of_getElem? (i := 9) rfl))) rfl rfl rfl (by decide +kernel) ⟨by rw [← hR]; exact Nat.le_of_ble_eq_true rfl, by rw [← hR]; exact Nat.le_of_ble_eq_true rfl⟩) ⟨fun a U g mk q => by obtain ⟨q0, q1, q2, qK, q10, q11, q12⟩ := q; exact ⟨q0, q1, q2, jG.calling g mk a qK, q10, q11, q12⟩, hh_1.recv (C := RX4) (T := TX4) (N := 12) hB6 rfl (by decide) hg_r0 hK, fun U hU hW => ⟨rfl, hU, hh_1.2.1, hG.step hW hU hh_1.1, hg_r0, jP.nil, trivial⟩⟩ rfl rfl hl.1 rfl (lv_room (Nat.le_of_ble_eq_true rfl)) dX4_unitAt_29 ⟨Nat.zero_le _, Nat.zero_le _⟩) hh_1.1 (fun q _ h => h) (fun q h => h) (fun r_9 u_8 t_8 H_8 locs_8 ht_8 hvm_8 hr_9 hb_8 hz_8 hk_8 hS_8 => ?_)
      rw [ht_8] at hb_8
      obtain ⟨hb_81, hb_82, hb_83, hb_84, hb_85⟩ := hb_8
      have hh_8 : jSt (dC, dI) B base G0 G0 EX4_unitAt s.heap 0 0 [(r0, 6, 7, .int values_5)] [] [] H_8 locs_8 := ((hh_1.call hb_81 hb_82 hb_83 hb_84 hS_8 rfl (L1 := [(r0, 6, 7, .int values_5)]) [0] rfl rfl (M1 := []) [] rfl rfl (I1 := []) [] rfl rfl).more hb_85)
      clear hh_1 ht_8 hvm_8 hz_8 hk_8 hS_8 hb_81 hb_82 hb_83 hb_84 hb_85
      refine lv_icmp_ge (tgt := 48) hx hb dX4_unitAt_32 (by decide) (fun c_10 => ?_) (fun c_10 => ?_)
      · skip
        have c_10' : a2.toInt ≥ r_9.toInt := jb_ge (rfl) (rfl) c_10
        refine lv_iconst (v := 0) hx hb dX4_unitAt_48 (by decide) ?_
        refine lv_goto (tgt := 58) hx hb dX4_unitAt_49 (by decide) ?_
        rw [hQ]
        exact W.iret (v := 0) hx hb hr (fun t ht hW => ⟨⟨0, (), rfl, trivial, hh_8.rt (M1 := []) [] rfl ht⟩, by rw [ht]; try exact hh_8.1.1, fun q h9 hq => by rw [ht]; try exact hh_8.1.2.1 q h9 hq⟩) hh_8.1.2.2 dX4_unitAt_58
      · skip
        have c_10' : a2.toInt < r_9.toInt := jb_ge_n (rfl) (rfl) c_10
        refine lv_iload_n hx hb dX4_unitAt_35 rfl (lv_at hl 0 rfl) ?_
        refine lv_if_lt (tgt := 48) hx hb dX4_unitAt_36 (by decide) (fun c_11 => ?_) (fun c_11 => ?_)
        · skip
          refine lv_iconst (v := 0) hx hb dX4_unitAt_48 (by decide) ?_
          refine lv_goto (tgt := 58) hx hb dX4_unitAt_49 (by decide) ?_
          rw [hQ]
          exact W.iret (v := 0) hx hb hr (fun t ht hW => ⟨⟨0, (), rfl, trivial, hh_8.rt (M1 := []) [] rfl ht⟩, by rw [ht]; try exact hh_8.1.1, fun q h9 hq => by rw [ht]; try exact hh_8.1.2.1 q h9 hq⟩) hh_8.1.2.2 dX4_unitAt_58
        · skip
          exact absurd c_11 (by decide)
  · skip
    have c_6' : r_2.toInt = 3 := jb_ne_n (rfl) ((by decide)) c_6
    first | (have hr_2q := hr_2.resolve_left (by omega); clear hr_2) | (have hr_2q := hr_2.resolve_right (by omega); clear hr_2) | try clear hr_2
    refine lv_aload_n hx hb dX4_unitAt_9 rfl (lv_at hl 0 rfl) ?_
    obtain ⟨v_12, hv_12, hh_13⟩ := hh_1.pin (C := RX4) (T := TX4) (N := 12) hB6 rfl (by decide) hg_r0 (i := 1) (by decide) rfl
    clear hh_1
    obtain ⟨firsts_14, rfl, hg_firsts_14⟩ := hv_12
    refine j7_read hx hb hown hK (C := RX4) (T := TX4) (N := 12) rfl hly_6_1 hlk_15 (hh_13.at 0 rfl) dX4_unitAt_10 ?_
    refine lv_iload_n hx hb dX4_unitAt_13 rfl (lv_at hl 1 rfl) ?_
    refine j7_iald hx hb hK hh_13 hB141 1 rfl (by decide) hg_firsts_14 (x := a1.toInt) (rfl) (by omega) dX4_unitAt_14 (fun z_15 (hz_15 : True) => ?_)
    refine lv_iload_n hx hb dX4_unitAt_15 rfl (lv_at hl 2 rfl) ?_
    refine lv_iadd hx hb dX4_unitAt_16 ?_
    refine lv_topi (fun z_16 ez_16 => ?_)
    refine lv_goto (tgt := 21) hx hb dX4_unitAt_17 (by decide) ?_
    refine lv_istore_n (lv' := [(3, .int z_16), (0, .ref r0), (1, .int a1), (2, .int a2)]) hx hb dX4_unitAt_21 rfl hl (by decide) rfl (fun ls hl => ?_)
    refine lv_iload_n hx hb dX4_unitAt_22 rfl (lv_at hl 3 rfl) ?_
    refine lv_if_lt (tgt := 48) hx hb dX4_unitAt_23 (by decide) (fun c_17 => ?_) (fun c_17 => ?_)
    · skip
      have c_17' : a2.toInt < 0 := jb_lt (rfl) ((by decide)) c_17
      refine lv_iconst (v := 0) hx hb dX4_unitAt_48 (by decide) ?_
      refine lv_goto (tgt := 58) hx hb dX4_unitAt_49 (by decide) ?_
      rw [hQ]
      exact W.iret (v := 0) hx hb hr (fun t ht hW => ⟨⟨0, (), rfl, trivial, hh_13.rt (M1 := []) [] rfl ht⟩, by rw [ht]; try exact hh_13.1.1, fun q h9 hq => by rw [ht]; try exact hh_13.1.2.1 q h9 hq⟩) hh_13.1.2.2 dX4_unitAt_58
    · skip
      have c_17' : a2.toInt ≥ 0 := jb_lt_n (rfl) ((by decide)) c_17
      refine lv_iload_n hx hb dX4_unitAt_26 rfl (lv_at hl 3 rfl) ?_
      refine lv_aload_n hx hb dX4_unitAt_27 rfl (lv_at hl 1 rfl) ?_
      refine lv_iload_n hx hb dX4_unitAt_28 rfl (lv_at hl 2 rfl) ?_
      refine va_calli (A0 := jA base) (H0 := s.heap) (va_runV (As := [.int a1]) (rest := [.int a2]) ⟨hx, hb, hml, hown, hts⟩ (uX4_sizeOf l dC dI ca base B hB hAp hB6 hB142 G0 H_1 r0 a1) (cwV 1 hts (jgV (jWr_25 _ (List.mem_of_getElem? (i := 8) rfl)) (jWr_24 _ (List.mem_of_getElem? (i := 7) rfl)) (jWr_24 _ (List.mem_of_getElem? (i := 8) rfl)) (jWr_1 _ (List.mem_of_getElem? (i := 22) rfl)) (jWr_24 _ (List.mem_of_getElem? (i := 9) rfl))) rfl rfl rfl (by decide +kernel) ⟨by rw [← hR]; exact Nat.le_of_ble_eq_true rfl, by rw [← hR]; exact Nat.le_of_ble_eq_true rfl⟩) ⟨fun a U g mk q => by obtain ⟨q0, q1, q2, qK, q10, q11, q12⟩ := q; exact ⟨q0, q1, q2, jG.calling g mk a qK, q10, q11, q12⟩, hh_13.recv (C := RX4) (T := TX4) (N := 12) hB6 rfl (by decide) hg_r0 hK, fun U hU hW => ⟨rfl, hU, hh_13.2.1, hG.step hW hU hh_13.1, hg_r0, jP.nil, trivial⟩⟩ rfl rfl hl.1 rfl (lv_room (Nat.le_of_ble_eq_true rfl)) dX4_unitAt_29 ⟨Nat.zero_le _, Nat.zero_le _⟩) hh_13.1 (fun q _ h => h) (fun q h => h) (fun r_19 u_18 t_18 H_18 locs_18 ht_18 hvm_18 hr_19 hb_18 hz_18 hk_18 hS_18 => ?_)
      rw [ht_18] at hb_18
      obtain ⟨hb_181, hb_182, hb_183, hb_184, hb_185⟩ := hb_18
      have hh_18 : jSt (dC, dI) B base G0 G0 EX4_unitAt s.heap 0 0 [(r0, 6, 1, .ref firsts_14), (r0, 6, 7, .int values_5)] [] [] H_18 locs_18 := ((hh_13.call hb_181 hb_182 hb_183 hb_184 hS_18 rfl (L1 := [(r0, 6, 1, .ref firsts_14), (r0, 6, 7, .int values_5)]) [0, 1] rfl rfl (M1 := []) [] rfl rfl (I1 := []) [] rfl rfl).more hb_185)
      clear hh_13 ht_18 hvm_18 hz_18 hk_18 hS_18 hb_181 hb_182 hb_183 hb_184 hb_185
      refine lv_icmp_ge (tgt := 48) hx hb dX4_unitAt_32 (by decide) (fun c_20 => ?_) (fun c_20 => ?_)
      · skip
        have c_20' : a2.toInt ≥ r_19.toInt := jb_ge (rfl) (rfl) c_20
        refine lv_iconst (v := 0) hx hb dX4_unitAt_48 (by decide) ?_
        refine lv_goto (tgt := 58) hx hb dX4_unitAt_49 (by decide) ?_
        rw [hQ]
        exact W.iret (v := 0) hx hb hr (fun t ht hW => ⟨⟨0, (), rfl, trivial, hh_18.rt (M1 := []) [] rfl ht⟩, by rw [ht]; try exact hh_18.1.1, fun q h9 hq => by rw [ht]; try exact hh_18.1.2.1 q h9 hq⟩) hh_18.1.2.2 dX4_unitAt_58
      · skip
        have c_20' : a2.toInt < r_19.toInt := jb_ge_n (rfl) (rfl) c_20
        refine lv_iload_n hx hb dX4_unitAt_35 rfl (lv_at hl 0 rfl) ?_
        refine lv_if_lt (tgt := 48) hx hb dX4_unitAt_36 (by decide) (fun c_21 => ?_) (fun c_21 => ?_)
        · skip
          have c_21' : z_16.toInt < 0 := jb_lt (rfl) ((by decide)) c_21
          refine lv_iconst (v := 0) hx hb dX4_unitAt_48 (by decide) ?_
          refine lv_goto (tgt := 58) hx hb dX4_unitAt_49 (by decide) ?_
          rw [hQ]
          exact W.iret (v := 0) hx hb hr (fun t ht hW => ⟨⟨0, (), rfl, trivial, hh_18.rt (M1 := []) [] rfl ht⟩, by rw [ht]; try exact hh_18.1.1, fun q h9 hq => by rw [ht]; try exact hh_18.1.2.1 q h9 hq⟩) hh_18.1.2.2 dX4_unitAt_58
        · skip
          have c_21' : z_16.toInt ≥ 0 := jb_lt_n (rfl) ((by decide)) c_21
          refine lv_iload_n hx hb dX4_unitAt_39 rfl (lv_at hl 0 rfl) ?_
          refine lv_aload_n hx hb dX4_unitAt_40 rfl (lv_at hl 1 rfl) ?_
          obtain ⟨v_22, hv_22, hh_23⟩ := hh_18.pin (C := RX4) (T := TX4) (N := 12) hB6 rfl (by decide) hg_r0 (i := 6) (by decide) rfl
          clear hh_18
          obtain ⟨units_24, rfl, hg_units_24⟩ := hv_22
          refine j7_read hx hb hown hK (C := RX4) (T := TX4) (N := 12) rfl hly_6_6 hlk_30 (hh_23.at 0 rfl) dX4_unitAt_41 ?_
          refine j7_len hx hb hK hh_23 hB146 1 rfl (by decide) hg_units_24 (by omega) dX4_unitAt_44 (fun z_25 hz_25 => ?_)
          refine lv_icmp_lt (tgt := 52) hx hb dX4_unitAt_45 (by decide) (fun c_26 => ?_) (fun c_26 => ?_)
          · skip
            have c_26' : z_16.toInt < z_25.toInt := jb_lt (rfl) (rfl) c_26
            refine lv_aload_n hx hb dX4_unitAt_52 rfl (lv_at hl 1 rfl) ?_
            refine j7_read hx hb hown hK (C := RX4) (T := TX4) (N := 12) rfl hly_6_6 hlk_30 (hh_23.at 0 rfl) dX4_unitAt_53 ?_
            refine lv_iload_n hx hb dX4_unitAt_56 rfl (lv_at hl 0 rfl) ?_
            refine j7_iald hx hb hK hh_23 hB146 1 rfl (by decide) hg_units_24 (x := z_16.toInt) (rfl) (by omega) dX4_unitAt_57 (fun z_27 (hz_27 : True) => ?_)
            rw [hQ]
            exact W.iret (v := z_27) hx hb hr (fun t ht hW => ⟨⟨z_27, (), rfl, trivial, hh_23.rt (M1 := []) [] rfl ht⟩, by rw [ht]; try exact hh_23.1.1, fun q h9 hq => by rw [ht]; try exact hh_23.1.2.1 q h9 hq⟩) hh_23.1.2.2 dX4_unitAt_58
          · skip
            have c_26' : z_16.toInt ≥ z_25.toInt := jb_lt_n (rfl) (rfl) c_26
            refine lv_iconst (v := 0) hx hb dX4_unitAt_48 (by decide) ?_
            refine lv_goto (tgt := 58) hx hb dX4_unitAt_49 (by decide) ?_
            rw [hQ]
            exact W.iret (v := 0) hx hb hr (fun t ht hW => ⟨⟨0, (), rfl, trivial, hh_23.rt (M1 := []) [] rfl ht⟩, by rw [ht]; try exact hh_23.1.1, fun q h9 hq => by rw [ht]; try exact hh_23.1.2.1 q h9 hq⟩) hh_23.1.2.2 dX4_unitAt_58
set_option maxHeartbeats 4000000 in
set_option maxRecDepth 20000 in
theorem uX4_isUnits (l : Launch) (dC : Nat → ClassId) (dI : Nat → Nat → Nat) (ca : Nat → ClassId) (base : Nat) (B : jF) (hB : jBok B) (hAp : jAp (dC, dI)) (hB6 : ∀ n G a H, B 6 n G a H ↔ jOb (dC, dI) 6 12 (F6 n G) a H) (hB101 : ∀ n G a H, B 101 n G a H ↔ jAr (dC, dI) (ca 1) (fun j z => True) n a H) (hB140 : ∀ n G a H, B 140 n G a H ↔ jAr (dC, dI) (ca 1) (fun j z => True) n a H) (hB141 : ∀ n G a H, B 141 n G a H ↔ jAr (dC, dI) (ca 1) (fun j z => True) n a H) (hB142 : ∀ n G a H, B 142 n G a H ↔ jAr (dC, dI) (ca 1) (fun j z => True) n a H) (hB146 : ∀ n G a H, B 146 n G a H ↔ jAr (dC, dI) (ca 1) (fun j z => True) n a H) (G0 : jT) (H0 : Heap) (r0 : Nat) (a1 : Int32) (r2 : Nat) (n2 : Nat) : Met l yX4_isUnits (jw yX4_isUnits cX4_isUnits 4 (some .boolean)) ({ frames := 2, cells := 0, slots := 0, locals := 44 }) (va_Pc [.ref r0, .int a1, .ref r2] (fun U => U.heap = H0 ∧ jX B base G0 [] H0 ∧ jG dC dI ca base U ∧ G0 r2 = some (101, n2) ∧ G0 r0 = some (6, 0) ∧ jP (dC, dI) G0 H0 [] ∧ n2 < 2147483648)) (va_Qi (S := Unit) (fun r u => (r = 0 ∨ r = 1) ∧ (True)) (fun u t => jRt (dC, dI) B base G0 EX4_isUnits H0 [] t.heap) (jA base)) 0 0 (jA base) := by
  refine Met.ofW (cc := cX4_isUnits) (maxL := 4) (ret := (some .boolean)) (by decide) rfl ?_
  intro p e s m args below meth c s₁ Bd hml hv
  obtain ⟨rfl, hH0, hX, hG, hg_r2, hg_r0, hP0, hp0⟩ := hv
  have hK := hG.1
  have hx := Bd.exec
  have hb := Bd.bytes
  have hr := Bd.returns
  have hts := atoms_spec (ws := (jw yX4_isUnits cX4_isUnits 4 (some .boolean))) Bd.pre
  have htw : ∀ w ∈ jWl, w.before _ s = true := fun w h => hts w (List.mem_cons_of_mem _ h)
  have hown : s.vm.findClass RX4 = some m.cls := findClass_of_methodNamed Bd.named
  have hlocks := Bd.notSynchronized
  obtain ⟨Q, hQ⟩ : ∃ Q, Q = MQ below (va_Qi (S := Unit) (fun r u => (r = 0 ∨ r = 1) ∧ (True)) (fun u t => jRt (dC, dI) B base G0 EX4_isUnits H0 [] t.heap) (jA base)) ([.ref r0, .int a1, .ref r2] : List Value).toArray s 0 0 (jA base) := ⟨_, rfl⟩
  rw [← hQ]
  have hl := lv_entry ([.ref r0, .int a1, .ref r2]) (n := 4) (Nat.le_of_ble_eq_true rfl)
  rw [lg_entry_eq]
  generalize (lg_sl ([.ref r0, .int a1, .ref r2]) ++ List.replicate (4 - (lg_sl ([.ref r0, .int a1, .ref r2])).length) Slot.unset).toArray = ls at hl ⊢
  have hl : lv_has ls 4 [(0, .ref r0), (1, .int a1), (2, .ref r2)] := hl
  generalize hR : (headSpec (jw yX4_isUnits cX4_isUnits 4 (some .boolean)) ({ frames := 2, cells := 0, slots := 0, locals := 44 })).room = R
  subst hH0
  have hh : jSt (dC, dI) B base G0 G0 EX4_isUnits s.heap 0 0 [] [] [] s.heap [] := jSt.start hX hP0 jMc.nil jIs.nil
  clear hX hP0
  have hk0 : (0 : Int32).toInt = 0 := by decide
  have hk1 : (1 : Int32).toInt = 1 := by decide
  have hk3 : (3 : Int32).toInt = 3 := by decide
  have hly_6_2 := htw (u_lay RX4 TX4 2) (jWc_wsX40 _ (u_in_lay (by decide)))
  have hlk_18 := (htw (.fieldLink RX4 18 "ProofServer$Json" "sizes" "[I") (jWr_3 _ (List.mem_of_getElem? (i := 23) rfl)))
  have hrg_a1 := jb_rng a1
  refine lv_aload_n hx hb dX4_isUnits_0 rfl (lv_at hl 0 rfl) ?_
  refine lv_iload_n hx hb dX4_isUnits_1 rfl (lv_at hl 1 rfl) ?_
  obtain ⟨v_3, hv_3, hh_4⟩ := hh.pin (C := RX4) (T := TX4) (N := 12) hB6 rfl (by decide) hg_r0 (i := 7) (by decide) rfl
  obtain ⟨values_5, rfl, hlovalues_5, hhivalues_5⟩ := hv_3
  refine va_calli (A0 := jA base) (H0 := s.heap) (va_runV (As := [.int a1]) (rest := []) ⟨hx, hb, hml, hown, hts⟩ (uX4_kindOf l dC dI ca base B hB hAp hB6 hB140 G0 s.heap r0 a1 values_5) (cwV 1 hts (jgV (jWr_23 _ (List.mem_of_getElem? (i := 14) rfl)) (jWr_23 _ (List.mem_of_getElem? (i := 15) rfl)) (jWr_23 _ (List.mem_of_getElem? (i := 16) rfl)) (jWr_1 _ (List.mem_of_getElem? (i := 22) rfl)) (jWr_23 _ (List.mem_of_getElem? (i := 17) rfl))) rfl rfl rfl (by decide +kernel) ⟨by rw [← hR]; exact Nat.le_of_ble_eq_true rfl, by rw [← hR]; exact Nat.le_of_ble_eq_true rfl⟩) ⟨fun a U g mk q => by obtain ⟨q0, q1, q2, qK, q10, q11, q12⟩ := q; exact ⟨q0, q1, q2, jG.calling g mk a qK, q10, q11, q12⟩, hh_4.recv (C := RX4) (T := TX4) (N := 12) hB6 rfl (by decide) hg_r0 hK, fun U hU hW => ⟨rfl, hU, hh_4.2.1, hG.step hW hU hh_4.1, hg_r0, (hh_4.2.2.1.sub (L1 := [(r0, 6, 7, .int values_5)]) [0] rfl), by first | omega | (refine ⟨?_, ?_⟩ <;> (first | omega | rfl | assumption | decide | exact Or.inl rfl | exact Or.inr rfl | (simp only; omega)))⟩⟩ rfl rfl hl.1 rfl (lv_room (Nat.le_of_ble_eq_true rfl)) dX4_isUnits_2 ⟨Nat.zero_le _, Nat.zero_le _⟩) hh_4.1 (fun q _ h => h) (fun q h => h) (fun r_2 u_1 t_1 H_1 locs_1 ht_1 hvm_1 hr_2 hb_1 hz_1 hk_1 hS_1 => ?_)
  rw [ht_1] at hb_1
  obtain ⟨hb_11, hb_12, hb_13, hb_14, hb_15⟩ := hb_1
  have hh_1 : jSt (dC, dI) B base G0 G0 EX4_isUnits s.heap 0 0 [(r0, 6, 7, .int values_5)] [] [] H_1 locs_1 := ((hh_4.call hb_11 hb_12 hb_13 hb_14 hS_1 rfl (L1 := [(r0, 6, 7, .int values_5)]) [0] rfl rfl (M1 := []) [] rfl rfl (I1 := []) [] rfl rfl).more hb_15)
  clear hh_4 ht_1 hvm_1 hz_1 hk_1 hS_1 hb_11 hb_12 hb_13 hb_14 hb_15
  refine lv_iconst (v := 3) hx hb dX4_isUnits_5 (by decide) ?_
  refine lv_icmp_ne (tgt := 20) hx hb dX4_isUnits_6 (by decide) (fun c_6 => ?_) (fun c_6 => ?_)
  · skip
    have c_6' : r_2.toInt ≠ 3 := jb_ne (rfl) ((by decide)) c_6
    try clear hr_2
    refine lv_iconst (v := 0) hx hb dX4_isUnits_20 (by decide) ?_
    rw [hQ]
    exact W.zret (v := 0) hx hb hr (jb_nz (Or.inl rfl)) (fun t ht hW => ⟨⟨0, (), rfl, ⟨(Or.inl rfl), trivial⟩, hh_1.rt (M1 := []) [] rfl ht⟩, by rw [ht]; try exact hh_1.1.1, fun q h9 hq => by rw [ht]; try exact hh_1.1.2.1 q h9 hq⟩) hh_1.1.2.2 dX4_isUnits_21
  · skip
    have c_6' : r_2.toInt = 3 := jb_ne_n (rfl) ((by decide)) c_6
    first | (have hr_2q := hr_2.resolve_left (by omega); clear hr_2) | (have hr_2q := hr_2.resolve_right (by omega); clear hr_2) | try clear hr_2
    refine lv_aload_n hx hb dX4_isUnits_9 rfl (lv_at hl 0 rfl) ?_
    obtain ⟨v_7, hv_7, hh_8⟩ := hh_1.pin (C := RX4) (T := TX4) (N := 12) hB6 rfl (by decide) hg_r0 (i := 2) (by decide) rfl
    clear hh_1
    obtain ⟨sizes_9, rfl, hg_sizes_9⟩ := hv_7
    refine j7_read hx hb hown hK (C := RX4) (T := TX4) (N := 12) rfl hly_6_2 hlk_18 (hh_8.at 0 rfl) dX4_isUnits_10 ?_
    refine lv_iload_n hx hb dX4_isUnits_13 rfl (lv_at hl 1 rfl) ?_
    refine j7_iald hx hb hK hh_8 hB142 1 rfl (by decide) hg_sizes_9 (x := a1.toInt) (rfl) (by omega) dX4_isUnits_14 (fun z_10 (hz_10 : True) => ?_)
    refine lv_aload_n hx hb dX4_isUnits_15 rfl (lv_at hl 2 rfl) ?_
    refine j7_len hx hb hK hh_8 hB101 1 rfl (by decide) hg_r2 (by omega) dX4_isUnits_16 (fun z_11 hz_11 => ?_)
    refine lv_icmp_eq (tgt := 22) hx hb dX4_isUnits_17 (by decide) (fun c_12 => ?_) (fun c_12 => ?_)
    · skip
      have c_12' : z_10.toInt = z_11.toInt := jb_eq (rfl) (rfl) c_12
      refine lv_iconst (v := 0) hx hb dX4_isUnits_22 (by decide) ?_
      refine lv_istore_n (lv' := [(3, .int 0), (0, .ref r0), (1, .int a1), (2, .ref r2)]) hx hb dX4_isUnits_23 rfl hl (by decide) rfl (fun ls hl => ?_)
      have L24 : ∀ (N : Nat) (v3_13 : Int32) (H_13 : Heap) (locs_13 : List Loc), jSt (dC, dI) B base G0 G0 EX4_isUnits s.heap 0 0 [(r0, 6, 2, .ref sizes_9), (r0, 6, 7, .int values_5)] [] [] H_13 locs_13 → (0 ≤ v3_13.toInt ∧ v3_13.toInt ≤ n2) → (n2 - v3_13.toInt : Int) < N → ∀ ls : Array Slot, lv_has ls 4 [(0, .ref r0), (1, .int a1), (2, .ref r2), (3, .int v3_13)] → W p l e R s m ([.ref r0, .int a1, .ref r2] : List Value).toArray below meth c H_13 locs_13 0 0 Q (F0 m 24 ls []) := by
        intro N
        induction N with
        | zero => intro v3_13 H_13 locs_13 hh_13  hi_13 hm; exact absurd hm (by omega)
        | succ N L24 =>
          intro v3_13 H_13 locs_13 hh_13  hi_13 hm_13 ls hl
          obtain ⟨hi_13_0, hi_13_1⟩ := hi_13
          refine lv_iload_n hx hb dX4_isUnits_24 rfl (lv_at hl 3 rfl) ?_
          refine lv_aload_n hx hb dX4_isUnits_25 rfl (lv_at hl 2 rfl) ?_
          refine j7_len hx hb hK hh_13 hB101 1 rfl (by decide) hg_r2 (by omega) dX4_isUnits_26 (fun z_14 hz_14 => ?_)
          refine lv_icmp_ge (tgt := 50) hx hb dX4_isUnits_27 (by decide) (fun c_15 => ?_) (fun c_15 => ?_)
          · skip
            have c_15' : v3_13.toInt ≥ z_14.toInt := jb_ge (rfl) (rfl) c_15
            refine lv_iconst (v := 1) hx hb dX4_isUnits_50 (by decide) ?_
            rw [hQ]
            exact W.zret (v := 1) hx hb hr (jb_nz (Or.inr rfl)) (fun t ht hW => ⟨⟨1, (), rfl, ⟨(Or.inr rfl), trivial⟩, hh_13.rt (M1 := []) [] rfl ht⟩, by rw [ht]; try exact hh_13.1.1, fun q h9 hq => by rw [ht]; try exact hh_13.1.2.1 q h9 hq⟩) hh_13.1.2.2 dX4_isUnits_51
          · skip
            have c_15' : v3_13.toInt < z_14.toInt := jb_ge_n (rfl) (rfl) c_15
            refine lv_aload_n hx hb dX4_isUnits_30 rfl (lv_at hl 0 rfl) ?_
            refine lv_iload_n hx hb dX4_isUnits_31 rfl (lv_at hl 1 rfl) ?_
            refine lv_iload_n hx hb dX4_isUnits_32 rfl (lv_at hl 3 rfl) ?_
            refine va_calli (A0 := jA base) (H0 := s.heap) (va_runV (As := [.int a1, .int v3_13]) (rest := []) ⟨hx, hb, hml, hown, hts⟩ (uX4_unitAt l dC dI ca base B hB hAp hB6 hB140 hB141 hB142 hB146 G0 H_13 r0 a1 v3_13) (cwV 2 hts (jgV (jWr_25 _ (List.mem_of_getElem? (i := 4) rfl)) (jWr_25 _ (List.mem_of_getElem? (i := 5) rfl)) (jWr_25 _ (List.mem_of_getElem? (i := 6) rfl)) (jWr_1 _ (List.mem_of_getElem? (i := 22) rfl)) (jWr_25 _ (List.mem_of_getElem? (i := 7) rfl))) rfl rfl rfl (by decide +kernel) ⟨by rw [← hR]; exact Nat.le_of_ble_eq_true rfl, by rw [← hR]; exact Nat.le_of_ble_eq_true rfl⟩) ⟨fun a U g mk q => by obtain ⟨q0, q1, q2, qK, q10, q11, q12⟩ := q; exact ⟨q0, q1, q2, jG.calling g mk a qK, q10, q11, q12⟩, hh_13.recv (C := RX4) (T := TX4) (N := 12) hB6 rfl (by decide) hg_r0 hK, fun U hU hW => ⟨rfl, hU, hh_13.2.1, hG.step hW hU hh_13.1, hg_r0, jP.nil, trivial⟩⟩ rfl rfl hl.1 rfl (lv_room (Nat.le_of_ble_eq_true rfl)) dX4_isUnits_33 ⟨Nat.zero_le _, Nat.zero_le _⟩) hh_13.1 (fun q _ h => h) (fun q h => h) (fun r_17 u_16 t_16 H_16 locs_16 ht_16 hvm_16 hr_17 hb_16 hz_16 hk_16 hS_16 => ?_)
            rw [ht_16] at hb_16
            obtain ⟨hb_161, hb_162, hb_163, hb_164, hb_165⟩ := hb_16
            have hh_16 : jSt (dC, dI) B base G0 G0 EX4_isUnits s.heap 0 0 [(r0, 6, 2, .ref sizes_9), (r0, 6, 7, .int values_5)] [] [] H_16 locs_16 := ((hh_13.call hb_161 hb_162 hb_163 hb_164 hS_16 rfl (L1 := [(r0, 6, 2, .ref sizes_9), (r0, 6, 7, .int values_5)]) [0, 1] rfl rfl (M1 := []) [] rfl rfl (I1 := []) [] rfl rfl).more hb_165)
            clear hh_13 ht_16 hvm_16 hz_16 hk_16 hS_16 hb_161 hb_162 hb_163 hb_164 hb_165
            refine lv_aload_n hx hb dX4_isUnits_36 rfl (lv_at hl 2 rfl) ?_
            refine lv_iload_n hx hb dX4_isUnits_37 rfl (lv_at hl 3 rfl) ?_
            refine j7_iald hx hb hK hh_16 hB101 1 rfl (by decide) hg_r2 (x := v3_13.toInt) (rfl) (by omega) dX4_isUnits_38 (fun z_18 (hz_18 : True) => ?_)
            refine lv_icmp_eq (tgt := 44) hx hb dX4_isUnits_39 (by decide) (fun c_19 => ?_) (fun c_19 => ?_)
            · skip
              have c_19' : r_17.toInt = z_18.toInt := jb_eq (rfl) (rfl) c_19
              obtain ⟨z_20, ez_20⟩ : ∃ y : Int32, y = v3_13 + 1 := ⟨_, rfl⟩
              refine lv_iinc (v := z_20) (lv' := [(3, .int z_20), (0, .ref r0), (1, .int a1), (2, .ref r2)]) hx hb dX4_isUnits_44 hl (k := 3) rfl (by rw [ez_20]; rfl) (by decide) rfl (fun ls hl => ?_)
              have hz_20 : z_20.toInt = v3_13.toInt + 1 := by rw [ez_20]; exact jb_iadd2 (rfl) (by decide) (by omega)
              refine lv_goto (tgt := 24) hx hb dX4_isUnits_47 (by decide) ?_
              exact L24 z_20 _ _ hh_16 (by first | omega | (refine ⟨?_, ?_⟩ <;> (first | omega | rfl | assumption | decide | exact Or.inl rfl | exact Or.inr rfl | (simp only; omega)))) (by omega) _ (lv_sub hl [1, 2, 3, 0] rfl)
            · skip
              have c_19' : r_17.toInt ≠ z_18.toInt := jb_eq_n (rfl) (rfl) c_19
              refine lv_iconst (v := 0) hx hb dX4_isUnits_42 (by decide) ?_
              rw [hQ]
              exact W.zret (v := 0) hx hb hr (jb_nz (Or.inl rfl)) (fun t ht hW => ⟨⟨0, (), rfl, ⟨(Or.inl rfl), trivial⟩, hh_16.rt (M1 := []) [] rfl ht⟩, by rw [ht]; try exact hh_16.1.1, fun q h9 hq => by rw [ht]; try exact hh_16.1.2.1 q h9 hq⟩) hh_16.1.2.2 dX4_isUnits_43
      exact L24 (n2 - (0 : Int32).toInt : Int).toNat.succ 0 _ _ hh_8 (by first | omega | (refine ⟨?_, ?_⟩ <;> (first | omega | rfl | assumption | decide | exact Or.inl rfl | exact Or.inr rfl | (simp only; omega)))) (by omega) _ (lv_sub hl [1, 2, 3, 0] rfl)
    · skip
      have c_12' : z_10.toInt ≠ z_11.toInt := jb_eq_n (rfl) (rfl) c_12
      refine lv_iconst (v := 0) hx hb dX4_isUnits_20 (by decide) ?_
      rw [hQ]
      exact W.zret (v := 0) hx hb hr (jb_nz (Or.inl rfl)) (fun t ht hW => ⟨⟨0, (), rfl, ⟨(Or.inl rfl), trivial⟩, hh_8.rt (M1 := []) [] rfl ht⟩, by rw [ht]; try exact hh_8.1.1, fun q h9 hq => by rw [ht]; try exact hh_8.1.2.1 q h9 hq⟩) hh_8.1.2.2 dX4_isUnits_21
set_option maxHeartbeats 4000000 in
set_option maxRecDepth 20000 in
theorem uX4_make (l : Launch) (dC : Nat → ClassId) (dI : Nat → Nat → Nat) (ca : Nat → ClassId) (base : Nat) (B : jF) (hB : jBok B) (hAp : jAp (dC, dI)) (hB6 : ∀ n G a H, B 6 n G a H ↔ jOb (dC, dI) 6 12 (F6 n G) a H) (hB140 : ∀ n G a H, B 140 n G a H ↔ jAr (dC, dI) (ca 1) (fun j z => True) n a H) (hB141 : ∀ n G a H, B 141 n G a H ↔ jAr (dC, dI) (ca 1) (fun j z => True) n a H) (hB142 : ∀ n G a H, B 142 n G a H ↔ jAr (dC, dI) (ca 1) (fun j z => True) n a H) (hB143 : ∀ n G a H, B 143 n G a H ↔ jAr (dC, dI) (ca 1) (fun j z => True) n a H) (hB144 : ∀ n G a H, B 144 n G a H ↔ jAr (dC, dI) (ca 1) (fun j z => 0 ≤ z.toInt ∧ z.toInt ≤ 3000) n a H) (hB145 : ∀ n G a H, B 145 n G a H ↔ jAr (dC, dI) (ca 1) (fun j z => True) n a H) (G0 : jT) (H0 : Heap) (r0 : Nat) (a1 : Int32) (a2 : Int32) (a3 : Int32) : Met l yX4_make (jw yX4_make cX4_make 4 (some .int)) ({ frames := 0, cells := 0, slots := 0, locals := 0 }) (va_Pc [.ref r0, .int a1, .int a2, .int a3] (fun U => U.heap = H0 ∧ jX B base G0 [] H0 ∧ jG dC dI ca base U ∧ G0 r0 = some (6, 0) ∧ jP (dC, dI) G0 H0 [] ∧ True)) (va_Qi (S := Unit) (fun r u => (-1 ≤ r.toInt ∧ r.toInt ≤ 1501)) (fun u t => jRt (dC, dI) B base G0 EX4_make H0 [] t.heap) (jA base)) 0 0 (jA base) := by
  refine Met.ofW (cc := cX4_make) (maxL := 4) (ret := (some .int)) (by decide) rfl ?_
  intro p e s m args below meth c s₁ Bd hml hv
  obtain ⟨rfl, hH0, hX, hG, hg_r0, hP0, hp0⟩ := hv
  have hK := hG.1
  have hx := Bd.exec
  have hb := Bd.bytes
  have hr := Bd.returns
  have hts := atoms_spec (ws := (jw yX4_make cX4_make 4 (some .int))) Bd.pre
  have htw : ∀ w ∈ jWl, w.before _ s = true := fun w h => hts w (List.mem_cons_of_mem _ h)
  have hown : s.vm.findClass RX4 = some m.cls := findClass_of_methodNamed Bd.named
  have hlocks := Bd.notSynchronized
  obtain ⟨Q, hQ⟩ : ∃ Q, Q = MQ below (va_Qi (S := Unit) (fun r u => (-1 ≤ r.toInt ∧ r.toInt ≤ 1501)) (fun u t => jRt (dC, dI) B base G0 EX4_make H0 [] t.heap) (jA base)) ([.ref r0, .int a1, .int a2, .int a3] : List Value).toArray s 0 0 (jA base) := ⟨_, rfl⟩
  rw [← hQ]
  have hl := lv_entry ([.ref r0, .int a1, .int a2, .int a3]) (n := 4) (Nat.le_of_ble_eq_true rfl)
  rw [lg_entry_eq]
  generalize (lg_sl ([.ref r0, .int a1, .int a2, .int a3]) ++ List.replicate (4 - (lg_sl ([.ref r0, .int a1, .int a2, .int a3])).length) Slot.unset).toArray = ls at hl ⊢
  have hl : lv_has ls 4 [(0, .ref r0), (1, .int a1), (2, .int a2), (3, .int a3)] := hl
  generalize hR : (headSpec (jw yX4_make cX4_make 4 (some .int)) ({ frames := 0, cells := 0, slots := 0, locals := 0 })).room = R
  subst hH0
  have hh : jSt (dC, dI) B base G0 G0 EX4_make s.heap 0 0 [] [] [] s.heap [] := jSt.start hX hP0 jMc.nil jIs.nil
  clear hX hP0
  have hkm1 : ((-1) : Int32).toInt = (-1) := by decide
  have hk0 : (0 : Int32).toInt = 0 := by decide
  have hk1 : (1 : Int32).toInt = 1 := by decide
  have hk1502 : (1502 : Int32).toInt = 1502 := by decide
  have hly_6_0 := htw (u_lay RX4 TX4 0) (jWc_wsX40 _ (u_in_lay (by decide)))
  have hly_6_1 := htw (u_lay RX4 TX4 1) (jWc_wsX40 _ (u_in_lay (by decide)))
  have hly_6_2 := htw (u_lay RX4 TX4 2) (jWc_wsX40 _ (u_in_lay (by decide)))
  have hly_6_3 := htw (u_lay RX4 TX4 3) (jWc_wsX40 _ (u_in_lay (by decide)))
  have hly_6_4 := htw (u_lay RX4 TX4 4) (jWc_wsX40 _ (u_in_lay (by decide)))
  have hly_6_5 := htw (u_lay RX4 TX4 5) (jWc_wsX40 _ (u_in_lay (by decide)))
  have hly_6_7 := htw (u_lay RX4 TX4 7) (jWc_wsX40 _ (u_in_lay (by decide)))
  have hlk_50 := (htw (.fieldLink RX4 50 "ProofServer$Json" "values" "I") (jWr_19 _ (List.mem_of_getElem? (i := 13) rfl)))
  have hlk_11 := (htw (.fieldLink RX4 11 "ProofServer$Json" "kinds" "[I") (jWr_3 _ (List.mem_of_getElem? (i := 21) rfl)))
  have hlk_15 := (htw (.fieldLink RX4 15 "ProofServer$Json" "firsts" "[I") (jWr_3 _ (List.mem_of_getElem? (i := 22) rfl)))
  have hlk_18 := (htw (.fieldLink RX4 18 "ProofServer$Json" "sizes" "[I") (jWr_3 _ (List.mem_of_getElem? (i := 23) rfl)))
  have hlk_21 := (htw (.fieldLink RX4 21 "ProofServer$Json" "nexts" "[I") (jWr_4 _ (List.mem_of_getElem? (i := 0) rfl)))
  have hlk_24 := (htw (.fieldLink RX4 24 "ProofServer$Json" "keyFirsts" "[I") (jWr_4 _ (List.mem_of_getElem? (i := 1) rfl)))
  have hlk_27 := (htw (.fieldLink RX4 27 "ProofServer$Json" "keySizes" "[I") (jWr_4 _ (List.mem_of_getElem? (i := 2) rfl)))
  have hrg_a1 := jb_rng a1
  have hrg_a2 := jb_rng a2
  have hrg_a3 := jb_rng a3
  refine lv_aload_n hx hb dX4_make_0 rfl (lv_at hl 0 rfl) ?_
  obtain ⟨v_1, hv_1, hh_2⟩ := hh.pin (C := RX4) (T := TX4) (N := 12) hB6 rfl (by decide) hg_r0 (i := 7) (by decide) rfl
  clear hh
  obtain ⟨values_3, rfl, hlovalues_3, hhivalues_3⟩ := hv_1
  refine j7_read hx hb hown hK (C := RX4) (T := TX4) (N := 12) rfl hly_6_7 hlk_50 (hh_2.at 0 rfl) dX4_make_1 ?_
  refine lv_sipush (v := 1502) hx hb dX4_make_4 (by decide) ?_
  refine lv_icmp_lt (tgt := 12) hx hb dX4_make_7 (by decide) (fun c_4 => ?_) (fun c_4 => ?_)
  · skip
    have c_4' : values_3.toInt < 1502 := jb_lt (rfl) ((by decide)) c_4
    refine lv_aload_n hx hb dX4_make_12 rfl (lv_at hl 0 rfl) ?_
    obtain ⟨v_5, hv_5, hh_6⟩ := hh_2.pin (C := RX4) (T := TX4) (N := 12) hB6 rfl (by decide) hg_r0 (i := 0) (by decide) rfl
    clear hh_2
    obtain ⟨kinds_7, rfl, hg_kinds_7⟩ := hv_5
    refine j7_read hx hb hown hK (C := RX4) (T := TX4) (N := 12) rfl hly_6_0 hlk_11 (hh_6.at 0 rfl) dX4_make_13 ?_
    refine lv_aload_n hx hb dX4_make_16 rfl (lv_at hl 0 rfl) ?_
    refine j7_read hx hb hown hK (C := RX4) (T := TX4) (N := 12) rfl hly_6_7 hlk_50 (hh_6.at 1 rfl) dX4_make_17 ?_
    refine lv_iload_n hx hb dX4_make_20 rfl (lv_at hl 1 rfl) ?_
    refine j7_iast hx hb hK hh_6 hB hB140 1 rfl (by decide) (by decide) rfl rfl rfl hg_kinds_7 (x := values_3.toInt) (rfl) (by omega) (trivial) dX4_make_21 (fun H_8 locs_8 hh_8 => ?_)
    clear hh_6
    refine lv_aload_n hx hb dX4_make_22 rfl (lv_at hl 0 rfl) ?_
    obtain ⟨v_9, hv_9, hh_10⟩ := hh_8.pin (C := RX4) (T := TX4) (N := 12) hB6 rfl (by decide) hg_r0 (i := 1) (by decide) rfl
    clear hh_8
    obtain ⟨firsts_11, rfl, hg_firsts_11⟩ := hv_9
    refine j7_read hx hb hown hK (C := RX4) (T := TX4) (N := 12) rfl hly_6_1 hlk_15 (hh_10.at 0 rfl) dX4_make_23 ?_
    refine lv_aload_n hx hb dX4_make_26 rfl (lv_at hl 0 rfl) ?_
    refine j7_read hx hb hown hK (C := RX4) (T := TX4) (N := 12) rfl hly_6_7 hlk_50 (hh_10.at 2 rfl) dX4_make_27 ?_
    refine lv_iload_n hx hb dX4_make_30 rfl (lv_at hl 2 rfl) ?_
    refine j7_iast hx hb hK hh_10 hB hB141 1 rfl (by decide) (by decide) rfl rfl rfl hg_firsts_11 (x := values_3.toInt) (rfl) (by omega) (trivial) dX4_make_31 (fun H_12 locs_12 hh_12 => ?_)
    clear hh_10
    refine lv_aload_n hx hb dX4_make_32 rfl (lv_at hl 0 rfl) ?_
    obtain ⟨v_13, hv_13, hh_14⟩ := hh_12.pin (C := RX4) (T := TX4) (N := 12) hB6 rfl (by decide) hg_r0 (i := 2) (by decide) rfl
    clear hh_12
    obtain ⟨sizes_15, rfl, hg_sizes_15⟩ := hv_13
    refine j7_read hx hb hown hK (C := RX4) (T := TX4) (N := 12) rfl hly_6_2 hlk_18 (hh_14.at 0 rfl) dX4_make_33 ?_
    refine lv_aload_n hx hb dX4_make_36 rfl (lv_at hl 0 rfl) ?_
    refine j7_read hx hb hown hK (C := RX4) (T := TX4) (N := 12) rfl hly_6_7 hlk_50 (hh_14.at 3 rfl) dX4_make_37 ?_
    refine lv_iload_n hx hb dX4_make_40 rfl (lv_at hl 3 rfl) ?_
    refine j7_iast hx hb hK hh_14 hB hB142 1 rfl (by decide) (by decide) rfl rfl rfl hg_sizes_15 (x := values_3.toInt) (rfl) (by omega) (trivial) dX4_make_41 (fun H_16 locs_16 hh_16 => ?_)
    clear hh_14
    refine lv_aload_n hx hb dX4_make_42 rfl (lv_at hl 0 rfl) ?_
    obtain ⟨v_17, hv_17, hh_18⟩ := hh_16.pin (C := RX4) (T := TX4) (N := 12) hB6 rfl (by decide) hg_r0 (i := 3) (by decide) rfl
    clear hh_16
    obtain ⟨nexts_19, rfl, hg_nexts_19⟩ := hv_17
    refine j7_read hx hb hown hK (C := RX4) (T := TX4) (N := 12) rfl hly_6_3 hlk_21 (hh_18.at 0 rfl) dX4_make_43 ?_
    refine lv_aload_n hx hb dX4_make_46 rfl (lv_at hl 0 rfl) ?_
    refine j7_read hx hb hown hK (C := RX4) (T := TX4) (N := 12) rfl hly_6_7 hlk_50 (hh_18.at 4 rfl) dX4_make_47 ?_
    refine lv_iconst (v := (-1)) hx hb dX4_make_50 (by decide) ?_
    refine j7_iast hx hb hK hh_18 hB hB143 1 rfl (by decide) (by decide) rfl rfl rfl hg_nexts_19 (x := values_3.toInt) (rfl) (by omega) (trivial) dX4_make_51 (fun H_20 locs_20 hh_20 => ?_)
    clear hh_18
    refine lv_aload_n hx hb dX4_make_52 rfl (lv_at hl 0 rfl) ?_
    obtain ⟨v_21, hv_21, hh_22⟩ := hh_20.pin (C := RX4) (T := TX4) (N := 12) hB6 rfl (by decide) hg_r0 (i := 4) (by decide) rfl
    clear hh_20
    obtain ⟨keyFirsts_23, rfl, hg_keyFirsts_23⟩ := hv_21
    refine j7_read hx hb hown hK (C := RX4) (T := TX4) (N := 12) rfl hly_6_4 hlk_24 (hh_22.at 0 rfl) dX4_make_53 ?_
    refine lv_aload_n hx hb dX4_make_56 rfl (lv_at hl 0 rfl) ?_
    refine j7_read hx hb hown hK (C := RX4) (T := TX4) (N := 12) rfl hly_6_7 hlk_50 (hh_22.at 5 rfl) dX4_make_57 ?_
    refine lv_iconst (v := 0) hx hb dX4_make_60 (by decide) ?_
    refine j7_iast hx hb hK hh_22 hB hB144 1 rfl (by decide) (by decide) rfl rfl rfl hg_keyFirsts_23 (x := values_3.toInt) (rfl) (by omega) (by first | omega | (refine ⟨?_, ?_⟩ <;> (first | omega | rfl | assumption | decide | exact Or.inl rfl | exact Or.inr rfl | (simp only; omega)))) dX4_make_61 (fun H_24 locs_24 hh_24 => ?_)
    clear hh_22
    refine lv_aload_n hx hb dX4_make_62 rfl (lv_at hl 0 rfl) ?_
    obtain ⟨v_25, hv_25, hh_26⟩ := hh_24.pin (C := RX4) (T := TX4) (N := 12) hB6 rfl (by decide) hg_r0 (i := 5) (by decide) rfl
    clear hh_24
    obtain ⟨keySizes_27, rfl, hg_keySizes_27⟩ := hv_25
    refine j7_read hx hb hown hK (C := RX4) (T := TX4) (N := 12) rfl hly_6_5 hlk_27 (hh_26.at 0 rfl) dX4_make_63 ?_
    refine lv_aload_n hx hb dX4_make_66 rfl (lv_at hl 0 rfl) ?_
    refine j7_read hx hb hown hK (C := RX4) (T := TX4) (N := 12) rfl hly_6_7 hlk_50 (hh_26.at 6 rfl) dX4_make_67 ?_
    refine lv_iconst (v := 0) hx hb dX4_make_70 (by decide) ?_
    refine j7_iast hx hb hK hh_26 hB hB145 1 rfl (by decide) (by decide) rfl rfl rfl hg_keySizes_27 (x := values_3.toInt) (rfl) (by omega) (trivial) dX4_make_71 (fun H_28 locs_28 hh_28 => ?_)
    clear hh_26
    refine lv_aload_n hx hb dX4_make_72 rfl (lv_at hl 0 rfl) ?_
    refine lv_dup hx hb dX4_make_73 rfl ?_
    refine j7_read hx hb hown hK (C := RX4) (T := TX4) (N := 12) rfl hly_6_7 hlk_50 (hh_28.at 6 rfl) dX4_make_74 ?_
    refine lv_iconst (v := 1) hx hb dX4_make_77 (by decide) ?_
    refine lv_iadd hx hb dX4_make_78 ?_
    refine lv_topi (fun z_29 ez_29 => ?_)
    have hz_29 : z_29.toInt = values_3.toInt + 1 := by rw [ez_29]; exact jb_iadd2 (rfl) ((by decide)) (by omega)
    refine j7_put hx hb hown hK hh_28 hB hAp hB6 (C := RX4) (T := TX4) (N := 12) rfl (by decide) hg_r0 (i := 7) (by decide) hly_6_7 rfl hlk_50 rfl (ty := .int) (v := .int z_29) (by decide +kernel) rfl rfl (⟨_, rfl, by omega, by omega⟩) rfl (L1 := [(r0, 6, 5, .ref keySizes_27), (r0, 6, 4, .ref keyFirsts_23), (r0, 6, 3, .ref nexts_19), (r0, 6, 2, .ref sizes_15), (r0, 6, 1, .ref firsts_11), (r0, 6, 0, .ref kinds_7)]) [0, 1, 2, 3, 4, 5] rfl rfl rfl dX4_make_79 (fun H_30 locs_30 hh_30 => ?_)
    clear hh_28
    refine lv_aload_n hx hb dX4_make_82 rfl (lv_at hl 0 rfl) ?_
    refine j7_read hx hb hown hK (C := RX4) (T := TX4) (N := 12) rfl hly_6_7 hlk_50 (hh_30.at 0 rfl) dX4_make_83 ?_
    refine lv_iconst (v := 1) hx hb dX4_make_86 (by decide) ?_
    refine lv_isub hx hb dX4_make_87 ?_
    refine lv_topi (fun z_31 ez_31 => ?_)
    have hz_31 : z_31.toInt = z_29.toInt - 1 := by rw [ez_31]; exact jb_isub2 (rfl) ((by decide)) (by omega)
    rw [hQ]
    exact W.iret (v := z_31) hx hb hr (fun t ht hW => ⟨⟨z_31, (), rfl, by first | omega | (refine ⟨?_, ?_⟩ <;> (first | omega | rfl | assumption | decide | exact Or.inl rfl | exact Or.inr rfl | (simp only; omega))), hh_30.rt (M1 := []) [] rfl ht⟩, by rw [ht]; try exact hh_30.1.1, fun q h9 hq => by rw [ht]; try exact hh_30.1.2.1 q h9 hq⟩) hh_30.1.2.2 dX4_make_88
  · skip
    have c_4' : values_3.toInt ≥ 1502 := jb_lt_n (rfl) ((by decide)) c_4
    refine lv_iconst (v := (-1)) hx hb dX4_make_10 (by decide) ?_
    rw [hQ]
    exact W.iret (v := (-1)) hx hb hr (fun t ht hW => ⟨⟨(-1), (), rfl, by first | omega | (refine ⟨?_, ?_⟩ <;> (first | omega | rfl | assumption | decide | exact Or.inl rfl | exact Or.inr rfl | (simp only; omega))), hh_2.rt (M1 := []) [] rfl ht⟩, by rw [ht]; try exact hh_2.1.1, fun q h9 hq => by rw [ht]; try exact hh_2.1.2.1 q h9 hq⟩) hh_2.1.2.2 dX4_make_11
set_option maxHeartbeats 4000000 in
set_option maxRecDepth 20000 in
theorem uX4_addUnit (l : Launch) (dC : Nat → ClassId) (dI : Nat → Nat → Nat) (ca : Nat → ClassId) (base : Nat) (B : jF) (hB : jBok B) (hAp : jAp (dC, dI)) (hB6 : ∀ n G a H, B 6 n G a H ↔ jOb (dC, dI) 6 12 (F6 n G) a H) (hB146 : ∀ n G a H, B 146 n G a H ↔ jAr (dC, dI) (ca 1) (fun j z => True) n a H) (G0 : jT) (H0 : Heap) (r0 : Nat) (a1 : Int32) : Met l yX4_addUnit (jw yX4_addUnit cX4_addUnit 2 none) ({ frames := 0, cells := 0, slots := 0, locals := 0 }) (va_Pc [.ref r0, .int a1] (fun U => U.heap = H0 ∧ jX B base G0 [] H0 ∧ jG dC dI ca base U ∧ G0 r0 = some (6, 0) ∧ jP (dC, dI) G0 H0 [] ∧ True)) (va_Qv (S := Unit) (fun u => True) (fun u t => jRt (dC, dI) B base G0 EX4_addUnit H0 [] t.heap) (jA base)) 0 0 (jA base) := by
  refine Met.ofW (cc := cX4_addUnit) (maxL := 2) (ret := none) (by decide) rfl ?_
  intro p e s m args below meth c s₁ Bd hml hv
  obtain ⟨rfl, hH0, hX, hG, hg_r0, hP0, hp0⟩ := hv
  have hK := hG.1
  have hx := Bd.exec
  have hb := Bd.bytes
  have hr := Bd.returns
  have hts := atoms_spec (ws := (jw yX4_addUnit cX4_addUnit 2 none)) Bd.pre
  have htw : ∀ w ∈ jWl, w.before _ s = true := fun w h => hts w (List.mem_cons_of_mem _ h)
  have hown : s.vm.findClass RX4 = some m.cls := findClass_of_methodNamed Bd.named
  have hlocks := Bd.notSynchronized
  obtain ⟨Q, hQ⟩ : ∃ Q, Q = MQ below (va_Qv (S := Unit) (fun u => True) (fun u t => jRt (dC, dI) B base G0 EX4_addUnit H0 [] t.heap) (jA base)) ([.ref r0, .int a1] : List Value).toArray s 0 0 (jA base) := ⟨_, rfl⟩
  rw [← hQ]
  have hl := lv_entry ([.ref r0, .int a1]) (n := 2) (Nat.le_of_ble_eq_true rfl)
  rw [lg_entry_eq]
  generalize (lg_sl ([.ref r0, .int a1]) ++ List.replicate (2 - (lg_sl ([.ref r0, .int a1])).length) Slot.unset).toArray = ls at hl ⊢
  have hl : lv_has ls 2 [(0, .ref r0), (1, .int a1)] := hl
  generalize hR : (headSpec (jw yX4_addUnit cX4_addUnit 2 none) ({ frames := 0, cells := 0, slots := 0, locals := 0 })).room = R
  subst hH0
  have hh : jSt (dC, dI) B base G0 G0 EX4_addUnit s.heap 0 0 [] [] [] s.heap [] := jSt.start hX hP0 jMc.nil jIs.nil
  clear hX hP0
  have hk0 : (0 : Int32).toInt = 0 := by decide
  have hk1 : (1 : Int32).toInt = 1 := by decide
  have hly_6_6 := htw (u_lay RX4 TX4 6) (jWc_wsX40 _ (u_in_lay (by decide)))
  have hly_6_8 := htw (u_lay RX4 TX4 8) (jWc_wsX40 _ (u_in_lay (by decide)))
  have hlk_53 := (htw (.fieldLink RX4 53 "ProofServer$Json" "unitCount" "I") (jWr_19 _ (List.mem_of_getElem? (i := 14) rfl)))
  have hlk_30 := (htw (.fieldLink RX4 30 "ProofServer$Json" "units" "[I") (jWr_4 _ (List.mem_of_getElem? (i := 3) rfl)))
  have hrg_a1 := jb_rng a1
  refine lv_aload_n hx hb dX4_addUnit_0 rfl (lv_at hl 0 rfl) ?_
  obtain ⟨v_1, hv_1, hh_2⟩ := hh.pin (C := RX4) (T := TX4) (N := 12) hB6 rfl (by decide) hg_r0 (i := 8) (by decide) rfl
  clear hh
  obtain ⟨unitCount_3, rfl, hlounitCount_3, hhiunitCount_3⟩ := hv_1
  refine j7_read hx hb hown hK (C := RX4) (T := TX4) (N := 12) rfl hly_6_8 hlk_53 (hh_2.at 0 rfl) dX4_addUnit_1 ?_
  refine lv_aload_n hx hb dX4_addUnit_4 rfl (lv_at hl 0 rfl) ?_
  obtain ⟨v_4, hv_4, hh_5⟩ := hh_2.pin (C := RX4) (T := TX4) (N := 12) hB6 rfl (by decide) hg_r0 (i := 6) (by decide) rfl
  clear hh_2
  obtain ⟨units_6, rfl, hg_units_6⟩ := hv_4
  refine j7_read hx hb hown hK (C := RX4) (T := TX4) (N := 12) rfl hly_6_6 hlk_30 (hh_5.at 0 rfl) dX4_addUnit_5 ?_
  refine j7_len hx hb hK hh_5 hB146 1 rfl (by decide) hg_units_6 (by omega) dX4_addUnit_8 (fun z_7 hz_7 => ?_)
  refine lv_icmp_ge (tgt := 32) hx hb dX4_addUnit_9 (by decide) (fun c_8 => ?_) (fun c_8 => ?_)
  · skip
    have c_8' : unitCount_3.toInt ≥ z_7.toInt := jb_ge (rfl) (rfl) c_8
    rw [hQ]
    exact W.vret hx hb hr (fun t ht hW => ⟨⟨(), rfl, trivial, hh_5.rt (M1 := []) [] rfl ht⟩, by rw [ht]; try exact hh_5.1.1, fun q h9 hq => by rw [ht]; try exact hh_5.1.2.1 q h9 hq⟩) hh_5.1.2.2 dX4_addUnit_32
  · skip
    have c_8' : unitCount_3.toInt < z_7.toInt := jb_ge_n (rfl) (rfl) c_8
    refine lv_aload_n hx hb dX4_addUnit_12 rfl (lv_at hl 0 rfl) ?_
    refine j7_read hx hb hown hK (C := RX4) (T := TX4) (N := 12) rfl hly_6_6 hlk_30 (hh_5.at 0 rfl) dX4_addUnit_13 ?_
    refine lv_aload_n hx hb dX4_addUnit_16 rfl (lv_at hl 0 rfl) ?_
    refine j7_read hx hb hown hK (C := RX4) (T := TX4) (N := 12) rfl hly_6_8 hlk_53 (hh_5.at 1 rfl) dX4_addUnit_17 ?_
    refine lv_iload_n hx hb dX4_addUnit_20 rfl (lv_at hl 1 rfl) ?_
    refine j7_iast hx hb hK hh_5 hB hB146 1 rfl (by decide) (by decide) rfl rfl rfl hg_units_6 (x := unitCount_3.toInt) (rfl) (by omega) (trivial) dX4_addUnit_21 (fun H_9 locs_9 hh_9 => ?_)
    clear hh_5
    refine lv_aload_n hx hb dX4_addUnit_22 rfl (lv_at hl 0 rfl) ?_
    refine lv_dup hx hb dX4_addUnit_23 rfl ?_
    refine j7_read hx hb hown hK (C := RX4) (T := TX4) (N := 12) rfl hly_6_8 hlk_53 (hh_9.at 1 rfl) dX4_addUnit_24 ?_
    refine lv_iconst (v := 1) hx hb dX4_addUnit_27 (by decide) ?_
    refine lv_iadd hx hb dX4_addUnit_28 ?_
    refine lv_topi (fun z_10 ez_10 => ?_)
    have hz_10 : z_10.toInt = unitCount_3.toInt + 1 := by rw [ez_10]; exact jb_iadd2 (rfl) ((by decide)) (by omega)
    refine j7_put hx hb hown hK hh_9 hB hAp hB6 (C := RX4) (T := TX4) (N := 12) rfl (by decide) hg_r0 (i := 8) (by decide) hly_6_8 rfl hlk_53 rfl (ty := .int) (v := .int z_10) (by decide +kernel) rfl rfl (⟨_, rfl, by omega, by omega⟩) rfl (L1 := [(r0, 6, 6, .ref units_6)]) [0] rfl rfl rfl dX4_addUnit_29 (fun H_11 locs_11 hh_11 => ?_)
    clear hh_9
    rw [hQ]
    exact W.vret hx hb hr (fun t ht hW => ⟨⟨(), rfl, trivial, hh_11.rt (M1 := []) [] rfl ht⟩, by rw [ht]; try exact hh_11.1.1, fun q h9 hq => by rw [ht]; try exact hh_11.1.2.1 q h9 hq⟩) hh_11.1.2.2 dX4_addUnit_32
set_option maxHeartbeats 4000000 in
set_option maxRecDepth 20000 in
theorem uX4_addChar (l : Launch) (dC : Nat → ClassId) (dI : Nat → Nat → Nat) (ca : Nat → ClassId) (base : Nat) (B : jF) (hB : jBok B) (hAp : jAp (dC, dI)) (hB6 : ∀ n G a H, B 6 n G a H ↔ jOb (dC, dI) 6 12 (F6 n G) a H) (hB146 : ∀ n G a H, B 146 n G a H ↔ jAr (dC, dI) (ca 1) (fun j z => True) n a H) (G0 : jT) (H0 : Heap) (r0 : Nat) (a1 : Int32) : Met l yX4_addChar (jw yX4_addChar cX4_addChar 2 none) ({ frames := 1, cells := 0, slots := 0, locals := 21 }) (va_Pc [.ref r0, .int a1] (fun U => U.heap = H0 ∧ jX B base G0 [] H0 ∧ jG dC dI ca base U ∧ G0 r0 = some (6, 0) ∧ jP (dC, dI) G0 H0 [] ∧ True)) (va_Qv (S := Unit) (fun u => True) (fun u t => jRt (dC, dI) B base G0 EX4_addChar H0 [] t.heap) (jA base)) 0 0 (jA base) := by
  refine Met.ofW (cc := cX4_addChar) (maxL := 2) (ret := none) (by decide) rfl ?_
  intro p e s m args below meth c s₁ Bd hml hv
  obtain ⟨rfl, hH0, hX, hG, hg_r0, hP0, hp0⟩ := hv
  have hK := hG.1
  have hx := Bd.exec
  have hb := Bd.bytes
  have hr := Bd.returns
  have hts := atoms_spec (ws := (jw yX4_addChar cX4_addChar 2 none)) Bd.pre
  have htw : ∀ w ∈ jWl, w.before _ s = true := fun w h => hts w (List.mem_cons_of_mem _ h)
  have hown : s.vm.findClass RX4 = some m.cls := findClass_of_methodNamed Bd.named
  have hlocks := Bd.notSynchronized
  obtain ⟨Q, hQ⟩ : ∃ Q, Q = MQ below (va_Qv (S := Unit) (fun u => True) (fun u t => jRt (dC, dI) B base G0 EX4_addChar H0 [] t.heap) (jA base)) ([.ref r0, .int a1] : List Value).toArray s 0 0 (jA base) := ⟨_, rfl⟩
  rw [← hQ]
  have hl := lv_entry ([.ref r0, .int a1]) (n := 2) (Nat.le_of_ble_eq_true rfl)
  rw [lg_entry_eq]
  generalize (lg_sl ([.ref r0, .int a1]) ++ List.replicate (2 - (lg_sl ([.ref r0, .int a1])).length) Slot.unset).toArray = ls at hl ⊢
  have hl : lv_has ls 2 [(0, .ref r0), (1, .int a1)] := hl
  generalize hR : (headSpec (jw yX4_addChar cX4_addChar 2 none) ({ frames := 1, cells := 0, slots := 0, locals := 21 })).room = R
  subst hH0
  have hh : jSt (dC, dI) B base G0 G0 EX4_addChar s.heap 0 0 [] [] [] s.heap [] := jSt.start hX hP0 jMc.nil jIs.nil
  clear hX hP0
  have hk0 : (0 : Int32).toInt = 0 := by decide
  have hk1 : (1 : Int32).toInt = 1 := by decide
  have hk10 : (10 : Int32).toInt = 10 := by decide
  have hk1023 : (1023 : Int32).toInt = 1023 := by decide
  have hk55296 : (55296 : Int32).toInt = 55296 := by decide
  have hk56320 : (56320 : Int32).toInt = 56320 := by decide
  have hk65536 : (65536 : Int32).toInt = 65536 := by decide
  have hcs_161 := htw (.constant RX4 161 65536) (jWr_22 _ (List.mem_of_getElem? (i := 7) rfl))
  have hcs_162 := htw (.constant RX4 162 55296) (jWr_22 _ (List.mem_of_getElem? (i := 8) rfl))
  have hcs_166 := htw (.constant RX4 166 56320) (jWr_22 _ (List.mem_of_getElem? (i := 9) rfl))
  have hrg_a1 := jb_rng a1
  refine lv_iload_n hx hb dX4_addChar_0 rfl (lv_at hl 1 rfl) ?_
  refine lv_ldc hx hb hown hcs_161 dX4_addChar_1 ?_
  refine lv_icmp_lt (tgt := 38) hx hb dX4_addChar_3 (by decide) (fun c_1 => ?_) (fun c_1 => ?_)
  · skip
    have c_1' : a1.toInt < 65536 := jb_lt (rfl) ((by decide)) c_1
    refine lv_aload_n hx hb dX4_addChar_38 rfl (lv_at hl 0 rfl) ?_
    refine lv_iload_n hx hb dX4_addChar_39 rfl (lv_at hl 1 rfl) ?_
    refine va_callv (A0 := jA base) (H0 := s.heap) (va_runV (As := [.int a1]) (rest := []) ⟨hx, hb, hml, hown, hts⟩ (uX4_addUnit l dC dI ca base B hB hAp hB6 hB146 G0 s.heap r0 a1) (cwV 1 hts (jgV (jWr_21 _ (List.mem_of_getElem? (i := 13) rfl)) (jWr_21 _ (List.mem_of_getElem? (i := 14) rfl)) (jWr_21 _ (List.mem_of_getElem? (i := 15) rfl)) (jWr_1 _ (List.mem_of_getElem? (i := 22) rfl)) (jWr_21 _ (List.mem_of_getElem? (i := 16) rfl))) rfl rfl rfl (by decide +kernel) ⟨by rw [← hR]; exact Nat.le_of_ble_eq_true rfl, by rw [← hR]; exact Nat.le_of_ble_eq_true rfl⟩) ⟨fun a U g mk q => by obtain ⟨q0, q1, q2, qK, q10, q11, q12⟩ := q; exact ⟨q0, q1, q2, jG.calling g mk a qK, q10, q11, q12⟩, hh.recv (C := RX4) (T := TX4) (N := 12) hB6 rfl (by decide) hg_r0 hK, fun U hU hW => ⟨rfl, hU, hh.2.1, hG.step hW hU hh.1, hg_r0, jP.nil, trivial⟩⟩ rfl rfl hl.1 rfl (lv_room (Nat.le_of_ble_eq_true rfl)) dX4_addChar_40 ⟨Nat.zero_le _, Nat.zero_le _⟩) hh.1 (fun q _ h => h) (fun q h => h) (fun u_2 t_2 H_2 locs_2 ht_2 hvm_2 hr_3 hb_2 hz_2 hk_2 hS_2 => ?_)
    rw [ht_2] at hb_2
    obtain ⟨hb_21, hb_22, hb_23, hb_24, hb_25⟩ := hb_2
    have hh_2 : jSt (dC, dI) B base G0 G0 EX4_addChar s.heap 0 0 [] [] [] H_2 locs_2 := ((hh.call hb_21 hb_22 hb_23 hb_24 hS_2 rfl (L1 := []) [] rfl rfl (M1 := []) [] rfl rfl (I1 := []) [] rfl rfl).more hb_25)
    clear hh ht_2 hvm_2 hz_2 hk_2 hS_2 hb_21 hb_22 hb_23 hb_24 hb_25
    rw [hQ]
    exact W.vret hx hb hr (fun t ht hW => ⟨⟨(), rfl, trivial, hh_2.rt (M1 := []) [] rfl ht⟩, by rw [ht]; try exact hh_2.1.1, fun q h9 hq => by rw [ht]; try exact hh_2.1.2.1 q h9 hq⟩) hh_2.1.2.2 dX4_addChar_43
  · skip
    have c_1' : a1.toInt ≥ 65536 := jb_lt_n (rfl) ((by decide)) c_1
    refine lv_aload_n hx hb dX4_addChar_6 rfl (lv_at hl 0 rfl) ?_
    refine lv_ldc hx hb hown hcs_162 dX4_addChar_7 ?_
    refine lv_iload_n hx hb dX4_addChar_9 rfl (lv_at hl 1 rfl) ?_
    refine lv_ldc hx hb hown hcs_161 dX4_addChar_10 ?_
    refine lv_isub hx hb dX4_addChar_12 ?_
    refine lv_topi (fun z_4 ez_4 => ?_)
    refine lv_bipush (v := 10) hx hb dX4_addChar_13 (by decide) ?_
    refine lv_ishr hx hb dX4_addChar_15 ?_
    refine lv_topi (fun z_5 ez_5 => ?_)
    have hz_5 : z_5.toInt = z_4.toInt / 2 ^ 10 := by rw [ez_5]; exact jb_ishr 10 (rfl) (by decide)
    refine lv_iadd hx hb dX4_addChar_16 ?_
    refine lv_topi (fun z_6 ez_6 => ?_)
    refine va_callv (A0 := jA base) (H0 := s.heap) (va_runV (As := [.int z_6]) (rest := []) ⟨hx, hb, hml, hown, hts⟩ (uX4_addUnit l dC dI ca base B hB hAp hB6 hB146 G0 s.heap r0 z_6) (cwV 1 hts (jgV (jWr_21 _ (List.mem_of_getElem? (i := 13) rfl)) (jWr_21 _ (List.mem_of_getElem? (i := 14) rfl)) (jWr_21 _ (List.mem_of_getElem? (i := 15) rfl)) (jWr_1 _ (List.mem_of_getElem? (i := 22) rfl)) (jWr_21 _ (List.mem_of_getElem? (i := 16) rfl))) rfl rfl rfl (by decide +kernel) ⟨by rw [← hR]; exact Nat.le_of_ble_eq_true rfl, by rw [← hR]; exact Nat.le_of_ble_eq_true rfl⟩) ⟨fun a U g mk q => by obtain ⟨q0, q1, q2, qK, q10, q11, q12⟩ := q; exact ⟨q0, q1, q2, jG.calling g mk a qK, q10, q11, q12⟩, hh.recv (C := RX4) (T := TX4) (N := 12) hB6 rfl (by decide) hg_r0 hK, fun U hU hW => ⟨rfl, hU, hh.2.1, hG.step hW hU hh.1, hg_r0, jP.nil, trivial⟩⟩ rfl rfl hl.1 rfl (lv_room (Nat.le_of_ble_eq_true rfl)) dX4_addChar_17 ⟨Nat.zero_le _, Nat.zero_le _⟩) hh.1 (fun q _ h => h) (fun q h => h) (fun u_7 t_7 H_7 locs_7 ht_7 hvm_7 hr_8 hb_7 hz_7 hk_7 hS_7 => ?_)
    rw [ht_7] at hb_7
    obtain ⟨hb_71, hb_72, hb_73, hb_74, hb_75⟩ := hb_7
    have hh_7 : jSt (dC, dI) B base G0 G0 EX4_addChar s.heap 0 0 [] [] [] H_7 locs_7 := ((hh.call hb_71 hb_72 hb_73 hb_74 hS_7 rfl (L1 := []) [] rfl rfl (M1 := []) [] rfl rfl (I1 := []) [] rfl rfl).more hb_75)
    clear hh ht_7 hvm_7 hz_7 hk_7 hS_7 hb_71 hb_72 hb_73 hb_74 hb_75
    refine lv_aload_n hx hb dX4_addChar_20 rfl (lv_at hl 0 rfl) ?_
    refine lv_ldc hx hb hown hcs_166 dX4_addChar_21 ?_
    refine lv_iload_n hx hb dX4_addChar_23 rfl (lv_at hl 1 rfl) ?_
    refine lv_ldc hx hb hown hcs_161 dX4_addChar_24 ?_
    refine lv_isub hx hb dX4_addChar_26 ?_
    refine lv_topi (fun z_9 ez_9 => ?_)
    refine lv_sipush (v := 1023) hx hb dX4_addChar_27 (by decide) ?_
    refine lv_iand hx hb dX4_addChar_30 ?_
    refine lv_topi (fun z_10 ez_10 => ?_)
    have hz_10 : 0 ≤ z_10.toInt ∧ z_10.toInt ≤ 1023 := by rw [ez_10]; exact jb_and z_9 (m := 1023) (k := 10) (by decide) (by decide)
    refine lv_iadd hx hb dX4_addChar_31 ?_
    refine lv_topi (fun z_11 ez_11 => ?_)
    refine va_callv (A0 := jA base) (H0 := s.heap) (va_runV (As := [.int z_11]) (rest := []) ⟨hx, hb, hml, hown, hts⟩ (uX4_addUnit l dC dI ca base B hB hAp hB6 hB146 G0 H_7 r0 z_11) (cwV 1 hts (jgV (jWr_21 _ (List.mem_of_getElem? (i := 13) rfl)) (jWr_21 _ (List.mem_of_getElem? (i := 14) rfl)) (jWr_21 _ (List.mem_of_getElem? (i := 15) rfl)) (jWr_1 _ (List.mem_of_getElem? (i := 22) rfl)) (jWr_21 _ (List.mem_of_getElem? (i := 16) rfl))) rfl rfl rfl (by decide +kernel) ⟨by rw [← hR]; exact Nat.le_of_ble_eq_true rfl, by rw [← hR]; exact Nat.le_of_ble_eq_true rfl⟩) ⟨fun a U g mk q => by obtain ⟨q0, q1, q2, qK, q10, q11, q12⟩ := q; exact ⟨q0, q1, q2, jG.calling g mk a qK, q10, q11, q12⟩, hh_7.recv (C := RX4) (T := TX4) (N := 12) hB6 rfl (by decide) hg_r0 hK, fun U hU hW => ⟨rfl, hU, hh_7.2.1, hG.step hW hU hh_7.1, hg_r0, jP.nil, trivial⟩⟩ rfl rfl hl.1 rfl (lv_room (Nat.le_of_ble_eq_true rfl)) dX4_addChar_32 ⟨Nat.zero_le _, Nat.zero_le _⟩) hh_7.1 (fun q _ h => h) (fun q h => h) (fun u_12 t_12 H_12 locs_12 ht_12 hvm_12 hr_13 hb_12 hz_12 hk_12 hS_12 => ?_)
    rw [ht_12] at hb_12
    obtain ⟨hb_121, hb_122, hb_123, hb_124, hb_125⟩ := hb_12
    have hh_12 : jSt (dC, dI) B base G0 G0 EX4_addChar s.heap 0 0 [] [] [] H_12 locs_12 := ((hh_7.call hb_121 hb_122 hb_123 hb_124 hS_12 rfl (L1 := []) [] rfl rfl (M1 := []) [] rfl rfl (I1 := []) [] rfl rfl).more hb_125)
    clear hh_7 ht_12 hvm_12 hz_12 hk_12 hS_12 hb_121 hb_122 hb_123 hb_124 hb_125
    refine lv_goto (tgt := 43) hx hb dX4_addChar_35 (by decide) ?_
    rw [hQ]
    exact W.vret hx hb hr (fun t ht hW => ⟨⟨(), rfl, trivial, hh_12.rt (M1 := []) [] rfl ht⟩, by rw [ht]; try exact hh_12.1.1, fun q h9 hq => by rw [ht]; try exact hh_12.1.2.1 q h9 hq⟩) hh_12.1.2.2 dX4_addChar_43
