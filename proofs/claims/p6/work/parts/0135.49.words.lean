section
theorem jWr_23 : ∀ w ∈ wsL_law_r23, w ∈ jWl := fun w h => jT23 w (List.mem_append_left _ h)
end
section
theorem dX4_kindOf_0 : decode cX4_kindOf 0 = .ok (.iload_n 1, 1) := by decide +kernel
theorem dX4_kindOf_1 : decode cX4_kindOf 1 = .ok (.ifCond .lt 11, 3) := by decide +kernel
theorem dX4_kindOf_4 : decode cX4_kindOf 4 = .ok (.iload_n 1, 1) := by decide +kernel
theorem dX4_kindOf_5 : decode cX4_kindOf 5 = .ok (.aload_n 0, 1) := by decide +kernel
theorem dX4_kindOf_6 : decode cX4_kindOf 6 = .ok (.getfield 50, 3) := by decide +kernel
theorem dX4_kindOf_9 : decode cX4_kindOf 9 = .ok (.if_icmp .lt 7, 3) := by decide +kernel
theorem dX4_kindOf_12 : decode cX4_kindOf 12 = .ok (.iconst 0, 1) := by decide +kernel
theorem dX4_kindOf_13 : decode cX4_kindOf 13 = .ok (.goto 9, 3) := by decide +kernel
theorem dX4_kindOf_16 : decode cX4_kindOf 16 = .ok (.aload_n 0, 1) := by decide +kernel
theorem dX4_kindOf_17 : decode cX4_kindOf 17 = .ok (.getfield 11, 3) := by decide +kernel
theorem dX4_kindOf_20 : decode cX4_kindOf 20 = .ok (.iload_n 1, 1) := by decide +kernel
theorem dX4_kindOf_21 : decode cX4_kindOf 21 = .ok (.iaload, 1) := by decide +kernel
theorem dX4_kindOf_22 : decode cX4_kindOf 22 = .ok (.ireturn, 1) := by decide +kernel
theorem dX4_sizeOf_0 : decode cX4_sizeOf 0 = .ok (.iload_n 1, 1) := by decide +kernel
theorem dX4_sizeOf_1 : decode cX4_sizeOf 1 = .ok (.ifCond .lt 11, 3) := by decide +kernel
theorem dX4_sizeOf_4 : decode cX4_sizeOf 4 = .ok (.iload_n 1, 1) := by decide +kernel
theorem dX4_sizeOf_5 : decode cX4_sizeOf 5 = .ok (.aload_n 0, 1) := by decide +kernel
theorem dX4_sizeOf_6 : decode cX4_sizeOf 6 = .ok (.getfield 50, 3) := by decide +kernel
theorem dX4_sizeOf_9 : decode cX4_sizeOf 9 = .ok (.if_icmp .lt 7, 3) := by decide +kernel
theorem dX4_sizeOf_12 : decode cX4_sizeOf 12 = .ok (.iconst 0, 1) := by decide +kernel
theorem dX4_sizeOf_13 : decode cX4_sizeOf 13 = .ok (.goto 9, 3) := by decide +kernel
theorem dX4_sizeOf_16 : decode cX4_sizeOf 16 = .ok (.aload_n 0, 1) := by decide +kernel
theorem dX4_sizeOf_17 : decode cX4_sizeOf 17 = .ok (.getfield 18, 3) := by decide +kernel
theorem dX4_sizeOf_20 : decode cX4_sizeOf 20 = .ok (.iload_n 1, 1) := by decide +kernel
theorem dX4_sizeOf_21 : decode cX4_sizeOf 21 = .ok (.iaload, 1) := by decide +kernel
theorem dX4_sizeOf_22 : decode cX4_sizeOf 22 = .ok (.ireturn, 1) := by decide +kernel
theorem dX4_member_0 : decode cX4_member 0 = .ok (.aload_n 0, 1) := by decide +kernel
theorem dX4_member_1 : decode cX4_member 1 = .ok (.iload_n 1, 1) := by decide +kernel
theorem dX4_member_2 : decode cX4_member 2 = .ok (.invokevirtual 63, 3) := by decide +kernel
theorem dX4_member_5 : decode cX4_member 5 = .ok (.iconst 1, 1) := by decide +kernel
theorem dX4_member_6 : decode cX4_member 6 = .ok (.if_icmp .eq 5, 3) := by decide +kernel
theorem dX4_member_9 : decode cX4_member 9 = .ok (.iconst (-1), 1) := by decide +kernel
theorem dX4_member_10 : decode cX4_member 10 = .ok (.ireturn, 1) := by decide +kernel
theorem dX4_member_11 : decode cX4_member 11 = .ok (.iconst (-1), 1) := by decide +kernel
theorem dX4_member_12 : decode cX4_member 12 = .ok (.istore_n 3, 1) := by decide +kernel
theorem dX4_member_13 : decode cX4_member 13 = .ok (.aload_n 0, 1) := by decide +kernel
theorem dX4_member_14 : decode cX4_member 14 = .ok (.getfield 15, 3) := by decide +kernel
theorem dX4_member_17 : decode cX4_member 17 = .ok (.iload_n 1, 1) := by decide +kernel
theorem dX4_member_18 : decode cX4_member 18 = .ok (.iaload, 1) := by decide +kernel
theorem dX4_member_19 : decode cX4_member 19 = .ok (.istore 4, 2) := by decide +kernel
theorem dX4_member_21 : decode cX4_member 21 = .ok (.iconst 0, 1) := by decide +kernel
theorem dX4_member_22 : decode cX4_member 22 = .ok (.istore 5, 2) := by decide +kernel
theorem dX4_member_24 : decode cX4_member 24 = .ok (.iload 5, 2) := by decide +kernel
theorem dX4_member_26 : decode cX4_member 26 = .ok (.aload_n 0, 1) := by decide +kernel
theorem dX4_member_27 : decode cX4_member 27 = .ok (.getfield 18, 3) := by decide +kernel
theorem dX4_member_30 : decode cX4_member 30 = .ok (.iload_n 1, 1) := by decide +kernel
theorem dX4_member_31 : decode cX4_member 31 = .ok (.iaload, 1) := by decide +kernel
theorem dX4_member_32 : decode cX4_member 32 = .ok (.if_icmp .ge 57, 3) := by decide +kernel
theorem dX4_member_35 : decode cX4_member 35 = .ok (.iload 4, 2) := by decide +kernel
theorem dX4_member_37 : decode cX4_member 37 = .ok (.ifCond .lt 52, 3) := by decide +kernel
theorem dX4_member_40 : decode cX4_member 40 = .ok (.iload 4, 2) := by decide +kernel
theorem dX4_member_42 : decode cX4_member 42 = .ok (.aload_n 0, 1) := by decide +kernel
theorem dX4_member_43 : decode cX4_member 43 = .ok (.getfield 50, 3) := by decide +kernel
theorem dX4_member_46 : decode cX4_member 46 = .ok (.if_icmp .ge 43, 3) := by decide +kernel
theorem dX4_member_49 : decode cX4_member 49 = .ok (.aload_n 0, 1) := by decide +kernel
theorem dX4_member_50 : decode cX4_member 50 = .ok (.aload_n 0, 1) := by decide +kernel
theorem dX4_member_51 : decode cX4_member 51 = .ok (.getfield 24, 3) := by decide +kernel
theorem dX4_member_54 : decode cX4_member 54 = .ok (.iload 4, 2) := by decide +kernel
theorem dX4_member_56 : decode cX4_member 56 = .ok (.iaload, 1) := by decide +kernel
theorem dX4_member_57 : decode cX4_member 57 = .ok (.aload_n 0, 1) := by decide +kernel
theorem dX4_member_58 : decode cX4_member 58 = .ok (.getfield 27, 3) := by decide +kernel
theorem dX4_member_61 : decode cX4_member 61 = .ok (.iload 4, 2) := by decide +kernel
theorem dX4_member_63 : decode cX4_member 63 = .ok (.iaload, 1) := by decide +kernel
theorem dX4_member_64 : decode cX4_member 64 = .ok (.aload_n 2, 1) := by decide +kernel
theorem dX4_member_65 : decode cX4_member 65 = .ok (.invokevirtual 66, 3) := by decide +kernel
theorem dX4_member_68 : decode cX4_member 68 = .ok (.ifCond .eq 6, 3) := by decide +kernel
theorem dX4_member_71 : decode cX4_member 71 = .ok (.iload 4, 2) := by decide +kernel
theorem dX4_member_73 : decode cX4_member 73 = .ok (.istore_n 3, 1) := by decide +kernel
theorem dX4_member_74 : decode cX4_member 74 = .ok (.aload_n 0, 1) := by decide +kernel
theorem dX4_member_75 : decode cX4_member 75 = .ok (.getfield 21, 3) := by decide +kernel
theorem dX4_member_78 : decode cX4_member 78 = .ok (.iload 4, 2) := by decide +kernel
theorem dX4_member_80 : decode cX4_member 80 = .ok (.iaload, 1) := by decide +kernel
theorem dX4_member_81 : decode cX4_member 81 = .ok (.istore 4, 2) := by decide +kernel
theorem dX4_member_83 : decode cX4_member 83 = .ok (.iinc 5 1, 3) := by decide +kernel
theorem dX4_member_86 : decode cX4_member 86 = .ok (.goto (-62), 3) := by decide +kernel
theorem dX4_member_89 : decode cX4_member 89 = .ok (.iload_n 3, 1) := by decide +kernel
theorem dX4_member_90 : decode cX4_member 90 = .ok (.ireturn, 1) := by decide +kernel
theorem dX4_areUnits_0 : decode cX4_areUnits 0 = .ok (.iload_n 2, 1) := by decide +kernel
theorem dX4_areUnits_1 : decode cX4_areUnits 1 = .ok (.aload_n 3, 1) := by decide +kernel
theorem dX4_areUnits_2 : decode cX4_areUnits 2 = .ok (.invokevirtual 70, 3) := by decide +kernel
theorem dX4_areUnits_5 : decode cX4_areUnits 5 = .ok (.if_icmp .ne 18, 3) := by decide +kernel
theorem dX4_areUnits_8 : decode cX4_areUnits 8 = .ok (.iload_n 1, 1) := by decide +kernel
theorem dX4_areUnits_9 : decode cX4_areUnits 9 = .ok (.ifCond .lt 14, 3) := by decide +kernel
theorem dX4_areUnits_12 : decode cX4_areUnits 12 = .ok (.iload_n 1, 1) := by decide +kernel
theorem dX4_areUnits_13 : decode cX4_areUnits 13 = .ok (.iload_n 2, 1) := by decide +kernel
theorem dX4_areUnits_14 : decode cX4_areUnits 14 = .ok (.iadd, 1) := by decide +kernel
theorem dX4_areUnits_15 : decode cX4_areUnits 15 = .ok (.aload_n 0, 1) := by decide +kernel
theorem dX4_areUnits_16 : decode cX4_areUnits 16 = .ok (.getfield 30, 3) := by decide +kernel
theorem dX4_areUnits_19 : decode cX4_areUnits 19 = .ok (.arraylength, 1) := by decide +kernel
theorem dX4_areUnits_20 : decode cX4_areUnits 20 = .ok (.if_icmp .le 5, 3) := by decide +kernel
theorem dX4_areUnits_23 : decode cX4_areUnits 23 = .ok (.iconst 0, 1) := by decide +kernel
theorem dX4_areUnits_24 : decode cX4_areUnits 24 = .ok (.ireturn, 1) := by decide +kernel
theorem dX4_areUnits_25 : decode cX4_areUnits 25 = .ok (.iconst 0, 1) := by decide +kernel
theorem dX4_areUnits_26 : decode cX4_areUnits 26 = .ok (.istore 4, 2) := by decide +kernel
theorem dX4_areUnits_28 : decode cX4_areUnits 28 = .ok (.iload 4, 2) := by decide +kernel
theorem dX4_areUnits_30 : decode cX4_areUnits 30 = .ok (.iload_n 2, 1) := by decide +kernel
theorem dX4_areUnits_31 : decode cX4_areUnits 31 = .ok (.if_icmp .ge 29, 3) := by decide +kernel
theorem dX4_areUnits_34 : decode cX4_areUnits 34 = .ok (.aload_n 0, 1) := by decide +kernel
theorem dX4_areUnits_35 : decode cX4_areUnits 35 = .ok (.getfield 30, 3) := by decide +kernel
theorem dX4_areUnits_38 : decode cX4_areUnits 38 = .ok (.iload_n 1, 1) := by decide +kernel
theorem dX4_areUnits_39 : decode cX4_areUnits 39 = .ok (.iload 4, 2) := by decide +kernel
theorem dX4_areUnits_41 : decode cX4_areUnits 41 = .ok (.iadd, 1) := by decide +kernel
theorem dX4_areUnits_42 : decode cX4_areUnits 42 = .ok (.iaload, 1) := by decide +kernel
theorem dX4_areUnits_43 : decode cX4_areUnits 43 = .ok (.aload_n 3, 1) := by decide +kernel
theorem dX4_areUnits_44 : decode cX4_areUnits 44 = .ok (.iload 4, 2) := by decide +kernel
theorem dX4_areUnits_46 : decode cX4_areUnits 46 = .ok (.invokevirtual 76, 3) := by decide +kernel
theorem dX4_areUnits_49 : decode cX4_areUnits 49 = .ok (.if_icmp .eq 5, 3) := by decide +kernel
theorem dX4_areUnits_52 : decode cX4_areUnits 52 = .ok (.iconst 0, 1) := by decide +kernel
theorem dX4_areUnits_53 : decode cX4_areUnits 53 = .ok (.ireturn, 1) := by decide +kernel
theorem dX4_areUnits_54 : decode cX4_areUnits 54 = .ok (.iinc 4 1, 3) := by decide +kernel
theorem dX4_areUnits_57 : decode cX4_areUnits 57 = .ok (.goto (-29), 3) := by decide +kernel
theorem dX4_areUnits_60 : decode cX4_areUnits 60 = .ok (.iconst 1, 1) := by decide +kernel
theorem dX4_areUnits_61 : decode cX4_areUnits 61 = .ok (.ireturn, 1) := by decide +kernel
theorem dX4_isUnits_0 : decode cX4_isUnits 0 = .ok (.aload_n 0, 1) := by decide +kernel
theorem dX4_isUnits_1 : decode cX4_isUnits 1 = .ok (.iload_n 1, 1) := by decide +kernel
theorem dX4_isUnits_2 : decode cX4_isUnits 2 = .ok (.invokevirtual 63, 3) := by decide +kernel
theorem dX4_isUnits_5 : decode cX4_isUnits 5 = .ok (.iconst 3, 1) := by decide +kernel
theorem dX4_isUnits_6 : decode cX4_isUnits 6 = .ok (.if_icmp .ne 14, 3) := by decide +kernel
theorem dX4_isUnits_9 : decode cX4_isUnits 9 = .ok (.aload_n 0, 1) := by decide +kernel
theorem dX4_isUnits_10 : decode cX4_isUnits 10 = .ok (.getfield 18, 3) := by decide +kernel
theorem dX4_isUnits_13 : decode cX4_isUnits 13 = .ok (.iload_n 1, 1) := by decide +kernel
theorem dX4_isUnits_14 : decode cX4_isUnits 14 = .ok (.iaload, 1) := by decide +kernel
theorem dX4_isUnits_15 : decode cX4_isUnits 15 = .ok (.aload_n 2, 1) := by decide +kernel
theorem dX4_isUnits_16 : decode cX4_isUnits 16 = .ok (.arraylength, 1) := by decide +kernel
theorem dX4_isUnits_17 : decode cX4_isUnits 17 = .ok (.if_icmp .eq 5, 3) := by decide +kernel
theorem dX4_isUnits_20 : decode cX4_isUnits 20 = .ok (.iconst 0, 1) := by decide +kernel
theorem dX4_isUnits_21 : decode cX4_isUnits 21 = .ok (.ireturn, 1) := by decide +kernel
theorem dX4_isUnits_22 : decode cX4_isUnits 22 = .ok (.iconst 0, 1) := by decide +kernel
theorem dX4_isUnits_23 : decode cX4_isUnits 23 = .ok (.istore_n 3, 1) := by decide +kernel
theorem dX4_isUnits_24 : decode cX4_isUnits 24 = .ok (.iload_n 3, 1) := by decide +kernel
theorem dX4_isUnits_25 : decode cX4_isUnits 25 = .ok (.aload_n 2, 1) := by decide +kernel
theorem dX4_isUnits_26 : decode cX4_isUnits 26 = .ok (.arraylength, 1) := by decide +kernel
theorem dX4_isUnits_27 : decode cX4_isUnits 27 = .ok (.if_icmp .ge 23, 3) := by decide +kernel
theorem dX4_isUnits_30 : decode cX4_isUnits 30 = .ok (.aload_n 0, 1) := by decide +kernel
theorem dX4_isUnits_31 : decode cX4_isUnits 31 = .ok (.iload_n 1, 1) := by decide +kernel
theorem dX4_isUnits_32 : decode cX4_isUnits 32 = .ok (.iload_n 3, 1) := by decide +kernel
theorem dX4_isUnits_33 : decode cX4_isUnits 33 = .ok (.invokevirtual 80, 3) := by decide +kernel
theorem dX4_isUnits_36 : decode cX4_isUnits 36 = .ok (.aload_n 2, 1) := by decide +kernel
theorem dX4_isUnits_37 : decode cX4_isUnits 37 = .ok (.iload_n 3, 1) := by decide +kernel
theorem dX4_isUnits_38 : decode cX4_isUnits 38 = .ok (.iaload, 1) := by decide +kernel
theorem dX4_isUnits_39 : decode cX4_isUnits 39 = .ok (.if_icmp .eq 5, 3) := by decide +kernel
theorem dX4_isUnits_42 : decode cX4_isUnits 42 = .ok (.iconst 0, 1) := by decide +kernel
theorem dX4_isUnits_43 : decode cX4_isUnits 43 = .ok (.ireturn, 1) := by decide +kernel
theorem dX4_isUnits_44 : decode cX4_isUnits 44 = .ok (.iinc 3 1, 3) := by decide +kernel
theorem dX4_isUnits_47 : decode cX4_isUnits 47 = .ok (.goto (-23), 3) := by decide +kernel
theorem dX4_isUnits_50 : decode cX4_isUnits 50 = .ok (.iconst 1, 1) := by decide +kernel
theorem dX4_isUnits_51 : decode cX4_isUnits 51 = .ok (.ireturn, 1) := by decide +kernel
theorem dX4_unitAt_0 : decode cX4_unitAt 0 = .ok (.aload_n 0, 1) := by decide +kernel
theorem dX4_unitAt_1 : decode cX4_unitAt 1 = .ok (.iload_n 1, 1) := by decide +kernel
theorem dX4_unitAt_2 : decode cX4_unitAt 2 = .ok (.invokevirtual 63, 3) := by decide +kernel
theorem dX4_unitAt_5 : decode cX4_unitAt 5 = .ok (.iconst 3, 1) := by decide +kernel
theorem dX4_unitAt_6 : decode cX4_unitAt 6 = .ok (.if_icmp .ne 14, 3) := by decide +kernel
theorem dX4_unitAt_9 : decode cX4_unitAt 9 = .ok (.aload_n 0, 1) := by decide +kernel
theorem dX4_unitAt_10 : decode cX4_unitAt 10 = .ok (.getfield 15, 3) := by decide +kernel
theorem dX4_unitAt_13 : decode cX4_unitAt 13 = .ok (.iload_n 1, 1) := by decide +kernel
theorem dX4_unitAt_14 : decode cX4_unitAt 14 = .ok (.iaload, 1) := by decide +kernel
theorem dX4_unitAt_15 : decode cX4_unitAt 15 = .ok (.iload_n 2, 1) := by decide +kernel
theorem dX4_unitAt_16 : decode cX4_unitAt 16 = .ok (.iadd, 1) := by decide +kernel
theorem dX4_unitAt_17 : decode cX4_unitAt 17 = .ok (.goto 4, 3) := by decide +kernel
theorem dX4_unitAt_20 : decode cX4_unitAt 20 = .ok (.iconst (-1), 1) := by decide +kernel
theorem dX4_unitAt_21 : decode cX4_unitAt 21 = .ok (.istore_n 3, 1) := by decide +kernel
theorem dX4_unitAt_22 : decode cX4_unitAt 22 = .ok (.iload_n 2, 1) := by decide +kernel
theorem dX4_unitAt_23 : decode cX4_unitAt 23 = .ok (.ifCond .lt 25, 3) := by decide +kernel
theorem dX4_unitAt_26 : decode cX4_unitAt 26 = .ok (.iload_n 2, 1) := by decide +kernel
theorem dX4_unitAt_27 : decode cX4_unitAt 27 = .ok (.aload_n 0, 1) := by decide +kernel
theorem dX4_unitAt_28 : decode cX4_unitAt 28 = .ok (.iload_n 1, 1) := by decide +kernel
theorem dX4_unitAt_29 : decode cX4_unitAt 29 = .ok (.invokevirtual 83, 3) := by decide +kernel
theorem dX4_unitAt_32 : decode cX4_unitAt 32 = .ok (.if_icmp .ge 16, 3) := by decide +kernel
theorem dX4_unitAt_35 : decode cX4_unitAt 35 = .ok (.iload_n 3, 1) := by decide +kernel
theorem dX4_unitAt_36 : decode cX4_unitAt 36 = .ok (.ifCond .lt 12, 3) := by decide +kernel
theorem dX4_unitAt_39 : decode cX4_unitAt 39 = .ok (.iload_n 3, 1) := by decide +kernel
theorem dX4_unitAt_40 : decode cX4_unitAt 40 = .ok (.aload_n 0, 1) := by decide +kernel
theorem dX4_unitAt_41 : decode cX4_unitAt 41 = .ok (.getfield 30, 3) := by decide +kernel
theorem dX4_unitAt_44 : decode cX4_unitAt 44 = .ok (.arraylength, 1) := by decide +kernel
theorem dX4_unitAt_45 : decode cX4_unitAt 45 = .ok (.if_icmp .lt 7, 3) := by decide +kernel
theorem dX4_unitAt_48 : decode cX4_unitAt 48 = .ok (.iconst 0, 1) := by decide +kernel
theorem dX4_unitAt_49 : decode cX4_unitAt 49 = .ok (.goto 9, 3) := by decide +kernel
theorem dX4_unitAt_52 : decode cX4_unitAt 52 = .ok (.aload_n 0, 1) := by decide +kernel
theorem dX4_unitAt_53 : decode cX4_unitAt 53 = .ok (.getfield 30, 3) := by decide +kernel
theorem dX4_unitAt_56 : decode cX4_unitAt 56 = .ok (.iload_n 3, 1) := by decide +kernel
theorem dX4_unitAt_57 : decode cX4_unitAt 57 = .ok (.iaload, 1) := by decide +kernel
theorem dX4_unitAt_58 : decode cX4_unitAt 58 = .ok (.ireturn, 1) := by decide +kernel
end
section
theorem dX11_errorText_0 : decode cX11_errorText 0 = .ok (.iload_n 0, 1) := by decide +kernel
theorem dX11_errorText_1 : decode cX11_errorText 1 = .ok (.lookupswitch 83 #[(-32800, 79), (-32700, 59), (-32602, 71), (-32601, 67), (-32600, 63), (-32002, 75)], 59) := by decide +kernel
theorem dX11_errorText_60 : decode cX11_errorText 60 = .ok (.ldc_w 477, 3) := by decide +kernel
theorem dX11_errorText_63 : decode cX11_errorText 63 = .ok (.areturn, 1) := by decide +kernel
theorem dX11_errorText_64 : decode cX11_errorText 64 = .ok (.ldc_w 479, 3) := by decide +kernel
theorem dX11_errorText_67 : decode cX11_errorText 67 = .ok (.areturn, 1) := by decide +kernel
theorem dX11_errorText_68 : decode cX11_errorText 68 = .ok (.ldc_w 481, 3) := by decide +kernel
theorem dX11_errorText_71 : decode cX11_errorText 71 = .ok (.areturn, 1) := by decide +kernel
theorem dX11_errorText_72 : decode cX11_errorText 72 = .ok (.ldc_w 483, 3) := by decide +kernel
theorem dX11_errorText_75 : decode cX11_errorText 75 = .ok (.areturn, 1) := by decide +kernel
theorem dX11_errorText_76 : decode cX11_errorText 76 = .ok (.ldc_w 485, 3) := by decide +kernel
theorem dX11_errorText_79 : decode cX11_errorText 79 = .ok (.areturn, 1) := by decide +kernel
theorem dX11_errorText_80 : decode cX11_errorText 80 = .ok (.ldc_w 487, 3) := by decide +kernel
theorem dX11_errorText_83 : decode cX11_errorText 83 = .ok (.areturn, 1) := by decide +kernel
theorem dX11_errorText_84 : decode cX11_errorText 84 = .ok (.ldc_w 489, 3) := by decide +kernel
theorem dX11_errorText_87 : decode cX11_errorText 87 = .ok (.areturn, 1) := by decide +kernel
def EX11_errorText : List (Nat × Nat) := []
def qtx842 : String := match tables_1[842]? with | some (Jvm.Cond.stringRef _ _ t) => t | _ => ""
set_option maxHeartbeats 4000000 in
set_option maxRecDepth 20000 in
theorem uX11_errorText (l : Launch) (dC : Nat → ClassId) (dI : Nat → Nat → Nat) (ca : Nat → ClassId) (base : Nat) (B : jF) (hB : jBok B) (hAp : jAp (dC, dI)) (G0 : jT) (H0 : Heap) (a0 : Int32) : Met l yX11_errorText (jw yX11_errorText cX11_errorText 1 (some (.object "java/lang/String"))) ({ frames := 0, cells := 0, slots := 0, locals := 0 }) (va_Pc [.int a0] (fun U => U.heap = H0 ∧ jX B base G0 [] H0 ∧ jG dC dI ca base U ∧ jP (dC, dI) G0 H0 [] ∧ True)) (jQx (S := Nat × Nat) (fun v u => v = .ref u.1 ∧ u.2 < 2147483648) (fun u t => jRt (dC, dI) B base G0 EX11_errorText H0 [] t.heap ∧ jStr base u.1 u.2 t t.heap) (jA base)) 0 0 (jA base) := by
  refine Met.ofW (cc := cX11_errorText) (maxL := 1) (ret := (some (.object "java/lang/String"))) (by decide) rfl ?_
  intro p e s m args below meth c s₁ Bd hml hv
  obtain ⟨rfl, hH0, hX, hG, hP0, hp0⟩ := hv
  have hK := hG.1
  have hx := Bd.exec
  have hb := Bd.bytes
  have hr := Bd.returns
  have hts := atoms_spec (ws := (jw yX11_errorText cX11_errorText 1 (some (.object "java/lang/String")))) Bd.pre
  have htw : ∀ w ∈ jWl, w.before _ s = true := fun w h => hts w (List.mem_cons_of_mem _ h)
  have hown : s.vm.findClass RX11 = some m.cls := findClass_of_methodNamed Bd.named
  have hlocks := Bd.notSynchronized
  obtain ⟨Q, hQ⟩ : ∃ Q, Q = MQ below (jQx (S := Nat × Nat) (fun v u => v = .ref u.1 ∧ u.2 < 2147483648) (fun u t => jRt (dC, dI) B base G0 EX11_errorText H0 [] t.heap ∧ jStr base u.1 u.2 t t.heap) (jA base)) ([.int a0] : List Value).toArray s 0 0 (jA base) := ⟨_, rfl⟩
  rw [← hQ]
  have hl := lv_entry ([.int a0]) (n := 1) (Nat.le_of_ble_eq_true rfl)
  rw [lg_entry_eq]
  generalize (lg_sl ([.int a0]) ++ List.replicate (1 - (lg_sl ([.int a0])).length) Slot.unset).toArray = ls at hl ⊢
  have hl : lv_has ls 1 [(0, .int a0)] := hl
  generalize hR : (headSpec (jw yX11_errorText cX11_errorText 1 (some (.object "java/lang/String"))) ({ frames := 0, cells := 0, slots := 0, locals := 0 })).room = R
  subst hH0
  have hh : jSt (dC, dI) B base G0 G0 EX11_errorText s.heap 0 0 [] [] [] s.heap [] := jSt.start hX hP0 jMc.nil jIs.nil
  clear hX hP0
  have hk0 : (0 : Int32).toInt = 0 := by decide
  have hk1 : (1 : Int32).toInt = 1 := by decide
  obtain ⟨str477, rstr477, hstr4770⟩ := hG.str (o := RX11) (k := 477) (tx := "not json") (List.mem_of_getElem? (i := 838) (by decide +kernel))
  have hstr477 : jStr base str477 8 s s.heap := hstr4770
  obtain ⟨str479, rstr479, hstr4790⟩ := hG.str (o := RX11) (k := 479) (tx := "no request") (List.mem_of_getElem? (i := 839) (by decide +kernel))
  have hstr479 : jStr base str479 10 s s.heap := hstr4790
  obtain ⟨str481, rstr481, hstr4810⟩ := hG.str (o := RX11) (k := 481) (tx := "no method") (List.mem_of_getElem? (i := 840) (by decide +kernel))
  have hstr481 : jStr base str481 9 s s.heap := hstr4810
  obtain ⟨str483, rstr483, hstr4830⟩ := hG.str (o := RX11) (k := 483) (tx := "bad params") (List.mem_of_getElem? (i := 841) (by decide +kernel))
  have hstr483 : jStr base str483 10 s s.heap := hstr4830
  obtain ⟨str485, rstr485, hstr4850⟩ := hG.str (o := RX11) (k := 485) (tx := qtx842) (List.mem_of_getElem? (i := 842) (by decide +kernel))
  have h9str485 : qtx842.length = 15 := by decide +kernel
  have hstr485 : jStr base str485 15 s s.heap := by rw [h9str485] at hstr4850; exact hstr4850
  obtain ⟨str487, rstr487, hstr4870⟩ := hG.str (o := RX11) (k := 487) (tx := "cancelled") (List.mem_of_getElem? (i := 843) (by decide +kernel))
  have hstr487 : jStr base str487 9 s s.heap := hstr4870
  obtain ⟨str489, rstr489, hstr4890⟩ := hG.str (o := RX11) (k := 489) (tx := "modified") (List.mem_of_getElem? (i := 844) (by decide +kernel))
  have hstr489 : jStr base str489 8 s s.heap := hstr4890
  have hrg_a0 := jb_rng a0
  refine lv_iload_n hx hb dX11_errorText_0 rfl (lv_at hl 0 rfl) ?_
  rcases (by omega : (a0.toInt ≠ (-32800) ∧ a0.toInt ≠ (-32700) ∧ a0.toInt ≠ (-32602) ∧ a0.toInt ≠ (-32601) ∧ a0.toInt ≠ (-32600) ∧ a0.toInt ≠ (-32002)) ∨ a0.toInt = (-32800) ∨ a0.toInt = (-32700) ∨ a0.toInt = (-32602) ∨ a0.toInt = (-32601) ∨ a0.toInt = (-32600) ∨ a0.toInt = (-32002)) with c_1 | c_1 | c_1 | c_1 | c_1 | c_1 | c_1
  · refine lv_lookup (off := 83) (tgt := 84) hx hb dX11_errorText_1 (by decide) (by show Op.lookupswitch.offset [((-32800), 79), ((-32700), 59), ((-32602), 71), ((-32601), 67), ((-32600), 63), ((-32002), 75)] 83 a0.toInt = 83; simp only [Op.lookupswitch.offset]; rw [if_neg (by omega), if_neg (by omega), if_neg (by omega), if_neg (by omega), if_neg (by omega), if_neg (by omega)]) (by decide) ?_
    refine j_ldcSw hx hb hown rstr489 dX11_errorText_84 ?_
    rw [hQ]
    exact W.aret (v := .ref str489) hx hb hr (Or.inl ⟨_, rfl⟩) (Or.inr ⟨_, rfl⟩) (fun t ht hW => ⟨⟨.ref str489, (str489, 8), rfl, ⟨rfl, by show (8 : Nat) < 2147483648; omega⟩, ⟨hh.rt (M1 := []) [] rfl ht, by rw [ht]; exact (hstr489.moved hW.alike).kept hh.1.2.1⟩⟩, by rw [ht]; try exact hh.1.1, fun q h9 hq => by rw [ht]; try exact hh.1.2.1 q h9 hq⟩) hh.1.2.2 dX11_errorText_87
  · refine lv_lookup (off := 79) (tgt := 80) hx hb dX11_errorText_1 (by decide) (by rw [c_1]; rfl) (by decide) ?_
    refine j_ldcSw hx hb hown rstr487 dX11_errorText_80 ?_
    rw [hQ]
    exact W.aret (v := .ref str487) hx hb hr (Or.inl ⟨_, rfl⟩) (Or.inr ⟨_, rfl⟩) (fun t ht hW => ⟨⟨.ref str487, (str487, 9), rfl, ⟨rfl, by show (9 : Nat) < 2147483648; omega⟩, ⟨hh.rt (M1 := []) [] rfl ht, by rw [ht]; exact (hstr487.moved hW.alike).kept hh.1.2.1⟩⟩, by rw [ht]; try exact hh.1.1, fun q h9 hq => by rw [ht]; try exact hh.1.2.1 q h9 hq⟩) hh.1.2.2 dX11_errorText_83
  · refine lv_lookup (off := 59) (tgt := 60) hx hb dX11_errorText_1 (by decide) (by rw [c_1]; rfl) (by decide) ?_
    refine j_ldcSw hx hb hown rstr477 dX11_errorText_60 ?_
    rw [hQ]
    exact W.aret (v := .ref str477) hx hb hr (Or.inl ⟨_, rfl⟩) (Or.inr ⟨_, rfl⟩) (fun t ht hW => ⟨⟨.ref str477, (str477, 8), rfl, ⟨rfl, by show (8 : Nat) < 2147483648; omega⟩, ⟨hh.rt (M1 := []) [] rfl ht, by rw [ht]; exact (hstr477.moved hW.alike).kept hh.1.2.1⟩⟩, by rw [ht]; try exact hh.1.1, fun q h9 hq => by rw [ht]; try exact hh.1.2.1 q h9 hq⟩) hh.1.2.2 dX11_errorText_63
  · refine lv_lookup (off := 71) (tgt := 72) hx hb dX11_errorText_1 (by decide) (by rw [c_1]; rfl) (by decide) ?_
    refine j_ldcSw hx hb hown rstr483 dX11_errorText_72 ?_
    rw [hQ]
    exact W.aret (v := .ref str483) hx hb hr (Or.inl ⟨_, rfl⟩) (Or.inr ⟨_, rfl⟩) (fun t ht hW => ⟨⟨.ref str483, (str483, 10), rfl, ⟨rfl, by show (10 : Nat) < 2147483648; omega⟩, ⟨hh.rt (M1 := []) [] rfl ht, by rw [ht]; exact (hstr483.moved hW.alike).kept hh.1.2.1⟩⟩, by rw [ht]; try exact hh.1.1, fun q h9 hq => by rw [ht]; try exact hh.1.2.1 q h9 hq⟩) hh.1.2.2 dX11_errorText_75
  · refine lv_lookup (off := 67) (tgt := 68) hx hb dX11_errorText_1 (by decide) (by rw [c_1]; rfl) (by decide) ?_
    refine j_ldcSw hx hb hown rstr481 dX11_errorText_68 ?_
    rw [hQ]
    exact W.aret (v := .ref str481) hx hb hr (Or.inl ⟨_, rfl⟩) (Or.inr ⟨_, rfl⟩) (fun t ht hW => ⟨⟨.ref str481, (str481, 9), rfl, ⟨rfl, by show (9 : Nat) < 2147483648; omega⟩, ⟨hh.rt (M1 := []) [] rfl ht, by rw [ht]; exact (hstr481.moved hW.alike).kept hh.1.2.1⟩⟩, by rw [ht]; try exact hh.1.1, fun q h9 hq => by rw [ht]; try exact hh.1.2.1 q h9 hq⟩) hh.1.2.2 dX11_errorText_71
  · refine lv_lookup (off := 63) (tgt := 64) hx hb dX11_errorText_1 (by decide) (by rw [c_1]; rfl) (by decide) ?_
    refine j_ldcSw hx hb hown rstr479 dX11_errorText_64 ?_
    rw [hQ]
    exact W.aret (v := .ref str479) hx hb hr (Or.inl ⟨_, rfl⟩) (Or.inr ⟨_, rfl⟩) (fun t ht hW => ⟨⟨.ref str479, (str479, 10), rfl, ⟨rfl, by show (10 : Nat) < 2147483648; omega⟩, ⟨hh.rt (M1 := []) [] rfl ht, by rw [ht]; exact (hstr479.moved hW.alike).kept hh.1.2.1⟩⟩, by rw [ht]; try exact hh.1.1, fun q h9 hq => by rw [ht]; try exact hh.1.2.1 q h9 hq⟩) hh.1.2.2 dX11_errorText_67
  · refine lv_lookup (off := 75) (tgt := 76) hx hb dX11_errorText_1 (by decide) (by rw [c_1]; rfl) (by decide) ?_
    refine j_ldcSw hx hb hown rstr485 dX11_errorText_76 ?_
    rw [hQ]
    exact W.aret (v := .ref str485) hx hb hr (Or.inl ⟨_, rfl⟩) (Or.inr ⟨_, rfl⟩) (fun t ht hW => ⟨⟨.ref str485, (str485, 15), rfl, ⟨rfl, by show (15 : Nat) < 2147483648; omega⟩, ⟨hh.rt (M1 := []) [] rfl ht, by rw [ht]; exact (hstr485.moved hW.alike).kept hh.1.2.1⟩⟩, by rw [ht]; try exact hh.1.1, fun q h9 hq => by rw [ht]; try exact hh.1.2.1 q h9 hq⟩) hh.1.2.2 dX11_errorText_79
end
section
theorem dX11_refuse_0 : decode cX11_refuse 0 = .ok (.aload_n 0, 1) := by decide +kernel
theorem dX11_refuse_1 : decode cX11_refuse 1 = .ok (.aload_n 1, 1) := by decide +kernel
theorem dX11_refuse_2 : decode cX11_refuse 2 = .ok (.ldc_w 464, 3) := by decide +kernel
theorem dX11_refuse_5 : decode cX11_refuse 5 = .ok (.invokevirtual 291, 3) := by decide +kernel
theorem dX11_refuse_8 : decode cX11_refuse 8 = .ok (.aload_n 0, 1) := by decide +kernel
theorem dX11_refuse_9 : decode cX11_refuse 9 = .ok (.getfield 35, 3) := by decide +kernel
theorem dX11_refuse_12 : decode cX11_refuse 12 = .ok (.iload_n 2, 1) := by decide +kernel
theorem dX11_refuse_13 : decode cX11_refuse 13 = .ok (.invokevirtual 466, 3) := by decide +kernel
theorem dX11_refuse_16 : decode cX11_refuse 16 = .ok (.aload_n 0, 1) := by decide +kernel
theorem dX11_refuse_17 : decode cX11_refuse 17 = .ok (.getfield 35, 3) := by decide +kernel
theorem dX11_refuse_20 : decode cX11_refuse 20 = .ok (.ldc_w 469, 3) := by decide +kernel
theorem dX11_refuse_23 : decode cX11_refuse 23 = .ok (.invokevirtual 297, 3) := by decide +kernel
theorem dX11_refuse_26 : decode cX11_refuse 26 = .ok (.aload_n 0, 1) := by decide +kernel
theorem dX11_refuse_27 : decode cX11_refuse 27 = .ok (.getfield 35, 3) := by decide +kernel
theorem dX11_refuse_30 : decode cX11_refuse 30 = .ok (.iload_n 2, 1) := by decide +kernel
theorem dX11_refuse_31 : decode cX11_refuse 31 = .ok (.invokestatic 471, 3) := by decide +kernel
theorem dX11_refuse_34 : decode cX11_refuse 34 = .ok (.invokevirtual 297, 3) := by decide +kernel
theorem dX11_refuse_37 : decode cX11_refuse 37 = .ok (.aload_n 0, 1) := by decide +kernel
theorem dX11_refuse_38 : decode cX11_refuse 38 = .ok (.getfield 35, 3) := by decide +kernel
theorem dX11_refuse_41 : decode cX11_refuse 41 = .ok (.ldc_w 475, 3) := by decide +kernel
theorem dX11_refuse_44 : decode cX11_refuse 44 = .ok (.invokevirtual 297, 3) := by decide +kernel
theorem dX11_refuse_47 : decode cX11_refuse 47 = .ok (.aload_n 0, 1) := by decide +kernel
theorem dX11_refuse_48 : decode cX11_refuse 48 = .ok (.invokevirtual 300, 3) := by decide +kernel
theorem dX11_refuse_51 : decode cX11_refuse 51 = .ok (.return_, 1) := by decide +kernel
def EX11_refuse : List (Nat × Nat) := [(2, 0), (2, 1), (13, 14), (196, 0)]
set_option maxHeartbeats 4000000 in
set_option maxRecDepth 20000 in
theorem uX11_refuse (l : Launch) (dC : Nat → ClassId) (dI : Nat → Nat → Nat) (ca : Nat → ClassId) (base : Nat) (B : jF) (hB : jBok B) (hAp : jAp (dC, dI)) (hB2 : ∀ n G a H, B 2 n G a H ↔ jOb (dC, dI) 2 2 (F2 n G) a H) (hB4 : ∀ n G a H, B 4 n G a H ↔ jOb (dC, dI) 4 12 (F4 n G) a H) (hB10 : ∀ n G a H, B 10 n G a H ↔ jOb (dC, dI) 10 5 (F10 n G) a H) (hB13 : ∀ n G a H, B 13 n G a H ↔ jOb (dC, dI) 13 19 (F13 n G) a H) (hB17 : ∀ n G a H, B 17 n G a H ↔ jOb (dC, dI) 17 2 (F17 n G) a H) (hB196 : ∀ n G a H, B 196 n G a H ↔ jAr (dC, dI) (ca 0) (fun j z => jBf j z) n a H) (hB199 : ∀ n G a H, B 199 n G a H ↔ jAr (dC, dI) (ca 0) (fun j z => jBf j z) n a H) (G0 : jT) (H0 : Heap) (r0 : Nat) (r1 : Nat) (a2 : Int32) (bo : Nat) (pc : Int32) (pa : Nat) (n_pa : Nat) (ou : Nat) (LC LS : Nat) : Met l yX11_refuse (jw yX11_refuse cX11_refuse 3 none) ({ frames := 6, cells := LC - H0.size, slots := LS - jTot H0, locals := 185 }) (va_Pc [.ref r0, .ref r1, .int a2] (fun U => U.heap = H0 ∧ jX B base G0 [] H0 ∧ jG dC dI ca base U ∧ G0 r1 = some (10, 0) ∧ G0 r0 = some (13, 0) ∧ G0 bo = some (2, 0) ∧ G0 pa = some (196, n_pa) ∧ G0 ou = some (2, 20000) ∧ jP (dC, dI) G0 H0 [(r0, 13, 4, .ref bo), (bo, 2, 1, .int pc), (bo, 2, 0, .ref pa), (r0, 13, 3, .ref ou)] ∧ jIs (dC, dI) G0 H0 [(jFy, jYb dC dI G0)] ∧ H0.size + (1048576 - n_pa) / 16 + 1 ≤ LC ∧ jTot H0 + 2 * (1048576 - n_pa) ≤ LS ∧ 0 ≤ pc.toInt ∧ pc.toInt ≤ n_pa ∧ 16 ≤ n_pa ∧ n_pa ≤ 1048576 ∧ jPw n_pa)) (va_Qv (S := Int32 × Nat × Nat × jT) (fun u => 0 ≤ u.1.toInt ∧ u.1.toInt ≤ u.2.2.1 ∧ n_pa ≤ u.2.2.1 ∧ u.2.2.1 ≤ 1048576 ∧ jPw u.2.2.1) (fun u t => jRa (dC, dI) B base G0 u.2.2.2 EX11_refuse H0 ((u.2.2.1 - n_pa) / 16) (2 * (u.2.2.1 - n_pa)) [(bo, 2, 1, .int u.1), (bo, 2, 0, .ref u.2.1)] t.heap ∧ u.2.2.2 u.2.1 = some (196, u.2.2.1) ∧ (jNk [0, 1, 2, 3, 4, 5, 6, 7, 8, 9, 10, 11, 12, 13, 14, 15, 16, 17, 175]) G0 u.2.2.2 ∧ jOl (dC, dI) G0 2 [bo, ou] H0 t.heap ∧ jIs (dC, dI) u.2.2.2 t.heap [(jFy, jYb dC dI u.2.2.2)]) (jA base)) (LC - H0.size) (LS - jTot H0) (jA base) := by
  refine Met.ofW (cc := cX11_refuse) (maxL := 3) (ret := none) (by decide) rfl ?_
  intro p e s m args below meth c s₁ Bd hml hv
  obtain ⟨rfl, hH0, hX, hG, hg_r1, hg_r0, hg_bo, hg_pa, hg_ou, hP0, hI0, hLC0, hLS0, hp0, hp1, hp2, hp3, hp4⟩ := hv
  have hK := hG.1
  have hx := Bd.exec
  have hb := Bd.bytes
  have hr := Bd.returns
  have hts := atoms_spec (ws := (jw yX11_refuse cX11_refuse 3 none)) Bd.pre
  have htw : ∀ w ∈ jWl, w.before _ s = true := fun w h => hts w (List.mem_cons_of_mem _ h)
  have hown : s.vm.findClass RX11 = some m.cls := findClass_of_methodNamed Bd.named
  have hlocks := Bd.notSynchronized
  obtain ⟨Q, hQ⟩ : ∃ Q, Q = MQ below (va_Qv (S := Int32 × Nat × Nat × jT) (fun u => 0 ≤ u.1.toInt ∧ u.1.toInt ≤ u.2.2.1 ∧ n_pa ≤ u.2.2.1 ∧ u.2.2.1 ≤ 1048576 ∧ jPw u.2.2.1) (fun u t => jRa (dC, dI) B base G0 u.2.2.2 EX11_refuse H0 ((u.2.2.1 - n_pa) / 16) (2 * (u.2.2.1 - n_pa)) [(bo, 2, 1, .int u.1), (bo, 2, 0, .ref u.2.1)] t.heap ∧ u.2.2.2 u.2.1 = some (196, u.2.2.1) ∧ (jNk [0, 1, 2, 3, 4, 5, 6, 7, 8, 9, 10, 11, 12, 13, 14, 15, 16, 17, 175]) G0 u.2.2.2 ∧ jOl (dC, dI) G0 2 [bo, ou] H0 t.heap ∧ jIs (dC, dI) u.2.2.2 t.heap [(jFy, jYb dC dI u.2.2.2)]) (jA base)) ([.ref r0, .ref r1, .int a2] : List Value).toArray s (LC - H0.size) (LS - jTot H0) (jA base) := ⟨_, rfl⟩
  rw [← hQ]
  have hl := lv_entry ([.ref r0, .ref r1, .int a2]) (n := 3) (Nat.le_of_ble_eq_true rfl)
  rw [lg_entry_eq]
  generalize (lg_sl ([.ref r0, .ref r1, .int a2]) ++ List.replicate (3 - (lg_sl ([.ref r0, .ref r1, .int a2])).length) Slot.unset).toArray = ls at hl ⊢
  have hl : lv_has ls 3 [(0, .ref r0), (1, .ref r1), (2, .int a2)] := hl
  generalize hR : (headSpec (jw yX11_refuse cX11_refuse 3 none) ({ frames := 6, cells := LC - H0.size, slots := LS - jTot H0, locals := 185 })).room = R
  subst hH0
  have hh : jSt (dC, dI) B base G0 G0 EX11_refuse s.heap 0 0 [(r0, 13, 4, .ref bo), (bo, 2, 1, .int pc), (bo, 2, 0, .ref pa), (r0, 13, 3, .ref ou)] [] [(jFy, jYb dC dI G0)] s.heap [] := jSt.start hX hP0 jMc.nil hI0
  clear hX hP0
  have hk0 : (0 : Int32).toInt = 0 := by decide
  have hk1 : (1 : Int32).toInt = 1 := by decide
  have hly_13_4 := htw (u_lay RX11 TX11 4) (jWc_wsX110 _ (u_in_lay (by decide)))
  obtain ⟨str464, rstr464, hstr4640⟩ := hG.str (o := RX11) (k := 464) (tx := ",\"error\":{\"code\":") (List.mem_of_getElem? (i := 821) (by decide +kernel))
  have hstr464 : jStr base str464 17 s s.heap := hstr4640
  have hlk_35 := (htw (.fieldLink RX11 35 "ProofServer" "body" "LProofServer$Bytes;") (jWr_2 _ (List.mem_of_getElem? (i := 1) rfl)))
  obtain ⟨str469, rstr469, hstr4690⟩ := hG.str (o := RX11) (k := 469) (tx := ",\"message\":\"") (List.mem_of_getElem? (i := 834) (by decide +kernel))
  have hstr469 : jStr base str469 12 s s.heap := hstr4690
  obtain ⟨str475, rstr475, hstr4750⟩ := hG.str (o := RX11) (k := 475) (tx := "\"}}") (List.mem_of_getElem? (i := 845) (by decide +kernel))
  have hstr475 : jStr base str475 3 s s.heap := hstr4750
  have hrg_a2 := jb_rng a2
  have hbs : base ≤ s.heap.size := Nat.le_of_lt (Nat.lt_of_le_of_lt (hh.ab hg_r0).1 (hh.ab hg_r0).2)
  have hbs : base ≤ s.heap.size := Nat.le_of_lt (Nat.lt_of_le_of_lt (hh.ab hg_r0).1 (hh.ab hg_r0).2)
  have hRc : R.cells = LC - s.heap.size := by rw [← hR]; rfl
  have hRs : R.slots = LS - jTot s.heap := by rw [← hR]; rfl
  have hh_1 := hh.addI (jOl.ie (dC := dC) (dI := dI) (G0 := G0) (k := 2) (rs := [bo, ou]) (H0 := s.heap) (F := [(2, 0), (2, 1)]) (C := RX0) (T := TX0) (N := 2) rfl (by decide) hh.2.2.2.2.1 (jOl.rf))
  clear hh
  refine lv_aload_n hx hb dX11_refuse_0 rfl (lv_at hl 0 rfl) ?_
  refine lv_aload_n hx hb dX11_refuse_1 rfl (lv_at hl 1 rfl) ?_
  refine j_ldcSw hx hb hown rstr464 dX11_refuse_2 ?_
  have hsz_2 := hh_1.2.2.2.2.2.1
  have htt_2 := hh_1.2.2.2.2.2.2.1
  refine W.room (fun hrc_2 hrs_2 => ?_)
  refine va_callv (A0 := jA base) (H0 := s.heap) (va_runV (As := [.ref r1, .ref str464]) (rest := []) ⟨hx, hb, hml, hown, hts⟩ (uX11_beginAnswer l dC dI ca base B hB hAp hB2 hB10 hB13 hB17 hB196 hB199 G0 s.heap r0 r1 str464 17 bo pc pa n_pa LC LS) (cwV 2 hts (jgV (jWr_26 _ (List.mem_of_getElem? (i := 7) rfl)) (jWr_26 _ (List.mem_of_getElem? (i := 8) rfl)) (jWr_26 _ (List.mem_of_getElem? (i := 9) rfl)) (jWr_1 _ (List.mem_of_getElem? (i := 2) rfl)) (jWr_26 _ (List.mem_of_getElem? (i := 10) rfl))) rfl rfl rfl (by decide +kernel) ⟨by rw [← hR]; exact Nat.le_of_ble_eq_true rfl, by rw [← hR]; exact Nat.le_of_ble_eq_true rfl⟩) ⟨fun a U g mk q => by obtain ⟨q0, q1, q2, qK, q10, q11, q12, q13, q14, q15, q16, q17⟩ := q; exact ⟨q0, q1, q2, jG.calling g mk a qK, (q10.moved (Vm.Alike.refl U.vm)), q11, q12, q13, q14, q15, q16, q17⟩, hh_1.recv (C := RX11) (T := TX11) (N := 19) hB13 rfl (by decide) hg_r0 hK, fun U hU hW => ⟨rfl, hU, hh_1.2.1, hG.step hW hU hh_1.1, (hstr464.moved hW.alike).kept hh_1.1.2.1, hg_r1, hg_r0, hg_bo, hg_pa, (hh_1.2.2.1.sub (L1 := [(r0, 13, 4, .ref bo), (bo, 2, 1, .int pc), (bo, 2, 0, .ref pa)]) [0, 1, 2] rfl), (hh_1.2.2.2.2.2.2.2.2.sub (L1 := [(jFy, jYb dC dI G0)]) [1] rfl), (by omega), (by omega), ⟨(by first | omega | rfl | assumption | fail), (by first | omega | rfl | assumption | fail), (by first | omega | rfl | assumption | fail), (by first | omega | rfl | assumption | fail), (by first | assumption | fail | omega), (by first | omega | rfl | assumption | fail)⟩⟩⟩ rfl rfl hl.1 rfl (lv_room (Nat.le_of_ble_eq_true rfl)) dX11_refuse_5 ⟨by rw [hRc]; omega, by rw [hRs]; omega⟩) hh_1.1 (fun q _ h => h) (fun q h => h) (fun u_2 t_2 H_2 locs_2 ht_2 hvm_2 hr_3 hb_2 hz_2 hk_2 hS_2 => ?_)
  obtain ⟨qc_2, qa_2, m_qa_2, G_2⟩ := u_2
  rw [ht_2] at hb_2
  simp only at hb_2
  obtain ⟨⟨hb_21, hb_22, hb_23, hb_24, hb_25, hb_26⟩, hgq_2_0, hN_2, hbO_2, hbE_2⟩ := hb_2
  have hh_2 : jSt (dC, dI) B base G0 G_2 EX11_refuse s.heap (0 + ((m_qa_2 - n_pa) / 16)) (0 + (2 * (m_qa_2 - n_pa))) [(bo, 2, 1, .int qc_2), (bo, 2, 0, .ref qa_2), (r0, 13, 4, .ref bo), (r0, 13, 3, .ref ou)] [] [] H_2 locs_2 := (hh_1.callG hb_21 hb_22 hb_23 hb_24 hb_25 hS_2 rfl (L1 := [(r0, 13, 4, .ref bo), (r0, 13, 3, .ref ou)]) [0, 3] rfl rfl (M1 := []) [] rfl rfl (I1 := []) [] rfl rfl).more hb_26
  have hNn_2 : (jNk [0, 1, 2, 3, 4, 5, 6, 7, 8, 9, 10, 11, 12, 13, 14, 15, 16, 17, 175]) G0 G_2 := (jNk.rf).tr hN_2
  have hg_4 := hb_22 _ _ hg_r0
  have hg_5 := hb_22 _ _ hg_r1
  have hg_6 := hb_22 _ _ hg_bo
  have hg_7 := hb_22 _ _ hg_ou
  have hh_8 := hh_2.addIs hbE_2
  have hd_9 := jOl.trL (hh_1.iv 0 rfl) hh_1.2.2.2.2.1 hbO_2 (by simp)
  have hh_10 := hh_8.addI (jOl.ie (dC := dC) (dI := dI) (G0 := G0) (k := 2) (rs := [bo, ou]) (H0 := s.heap) (F := [(2, 0), (2, 1)]) (C := RX0) (T := TX0) (N := 2) rfl (by decide) hh_8.2.2.2.2.1 (hd_9))
  clear hh_8
  try simp only at hr_3
  obtain ⟨hr_3_0, hr_3_1, hr_3_2, hr_3_3, hr_3_4⟩ := hr_3
  have hh_11 := hh_10.wk (zc1 := (m_qa_2 - n_pa) / 16) (zs1 := 2 * (m_qa_2 - n_pa)) (by omega) (by omega)
  clear hh_10
  try clear hsz_2 htt_2 hrc_2 hrs_2
  try clear hb_24 hb_25
  refine lv_aload_n hx hb dX11_refuse_8 rfl (lv_at hl 0 rfl) ?_
  refine j7_read hx hb hown hK (C := RX11) (T := TX11) (N := 19) rfl hly_13_4 hlk_35 (hh_11.at 2 rfl) dX11_refuse_9 ?_
  refine lv_iload_n hx hb dX11_refuse_12 rfl (lv_at hl 2 rfl) ?_
  have hsz_12 := hh_11.2.2.2.2.2.1
  have htt_12 := hh_11.2.2.2.2.2.2.1
  refine W.room (fun hrc_12 hrs_12 => ?_)
  refine va_callv (A0 := jA base) (H0 := s.heap) (va_runV (As := [.int a2]) (rest := []) ⟨hx, hb, hml, hown, hts⟩ (uX0_number l dC dI ca base B hB hAp hB2 hB196 G_2 H_2 bo a2 qc_2 qa_2 m_qa_2 LC LS) (cwV 1 hts (jgV (jWr_26 _ (List.mem_of_getElem? (i := 16) rfl)) (jWr_24 _ (List.mem_of_getElem? (i := 16) rfl)) (jWr_24 _ (List.mem_of_getElem? (i := 17) rfl)) (jWr_1 _ (List.mem_of_getElem? (i := 14) rfl)) (jWr_24 _ (List.mem_of_getElem? (i := 18) rfl))) rfl rfl rfl (by decide +kernel) ⟨by rw [← hR]; exact Nat.le_of_ble_eq_true rfl, by rw [← hR]; exact Nat.le_of_ble_eq_true rfl⟩) ⟨fun a U g mk q => by obtain ⟨q0, q1, q2, qK, q10, q11, q12, q13⟩ := q; exact ⟨q0, q1, q2, jG.calling g mk a qK, q10, q11, q12, q13⟩, hh_11.recv (C := RX0) (T := TX0) (N := 2) hB2 rfl (by decide) hg_6 hK, fun U hU hW => ⟨rfl, hU, hh_11.2.1, hG.step hW hU hh_11.1, hg_6, hgq_2_0, (hh_11.2.2.1.sub (L1 := [(bo, 2, 1, .int qc_2), (bo, 2, 0, .ref qa_2)]) [0, 1] rfl), (by omega), (by omega), ⟨(by first | omega | rfl | assumption | fail), (by first | omega | rfl | assumption | fail), (by first | omega | rfl | assumption | fail), (by first | omega | rfl | assumption | fail), (by first | assumption | fail | omega)⟩⟩⟩ rfl rfl hl.1 rfl (lv_room (Nat.le_of_ble_eq_true rfl)) dX11_refuse_13 ⟨by rw [hRc]; omega, by rw [hRs]; omega⟩) hh_11.1 (fun q _ h => h) (fun q h => h) (fun u_12 t_12 H_12 locs_12 ht_12 hvm_12 hr_13 hb_12 hz_12 hk_12 hS_12 => ?_)
  obtain ⟨qc_12, qa_12, m_qa_12, G_12⟩ := u_12
  rw [ht_12] at hb_12
  simp only at hb_12
  obtain ⟨⟨hb_121, hb_122, hb_123, hb_124, hb_125, hb_126⟩, hgq_12_0, hN_12, hbO_12⟩ := hb_12
  have hy_14 := hh_11.iv 1 rfl
  have hh_12 : jSt (dC, dI) B base G0 G_12 EX11_refuse s.heap (((m_qa_2 - n_pa) / 16) + ((m_qa_12 - m_qa_2) / 16)) ((2 * (m_qa_2 - n_pa)) + (2 * (m_qa_12 - m_qa_2))) [(bo, 2, 1, .int qc_12), (bo, 2, 0, .ref qa_12), (r0, 13, 4, .ref bo), (r0, 13, 3, .ref ou)] [] [] H_12 locs_12 := (hh_11.callG hb_121 hb_122 hb_123 hb_124 hb_125 hS_12 rfl (L1 := [(r0, 13, 4, .ref bo), (r0, 13, 3, .ref ou)]) [2, 3] rfl rfl (M1 := []) [] rfl rfl (I1 := []) [] rfl rfl).more hb_126
  have hNn_12 : (jNk [0, 1, 2, 3, 4, 5, 6, 7, 8, 9, 10, 11, 12, 13, 14, 15, 16, 17, 175]) G0 G_12 := (hNn_2).tr hN_12
  have hg_15 := hb_122 _ _ hg_4
  have hg_16 := hb_122 _ _ hg_5
  have hg_17 := hb_122 _ _ hg_6
  have hg_18 := hb_122 _ _ hg_7
  have hd_19 := jOl.trO (hh_11.iv 0 rfl) hh_11.2.2.2.2.1 hbO_12 (by simp)
  have hh_20 := hh_12.addI (jOl.ie (dC := dC) (dI := dI) (G0 := G0) (k := 2) (rs := [bo, ou]) (H0 := s.heap) (F := [(2, 0), (2, 1)]) (C := RX0) (T := TX0) (N := 2) rfl (by decide) hh_12.2.2.2.2.1 (hd_19))
  clear hh_12
  have hyp_12 : qc_12.toInt ≤ (m_qa_12 : Nat) ∧ m_qa_12 ≤ 1048576 := by (try simp only at hr_13); omega
  have hy_21 := jYb.own hy_14 hbO_12 hb_122 hN_12 (by decide) (fun _ => ⟨_, _, _, hh_20.at 0 rfl, hh_20.at 1 rfl, hgq_12_0, hyp_12⟩)
  have hh_22 := hh_20.addI (jYb.ie hy_21)
  clear hh_20
  try simp only at hr_13
  obtain ⟨hr_13_0, hr_13_1, hr_13_2, hr_13_3, hr_13_4⟩ := hr_13
  have hh_23 := hh_22.wk (zc1 := (m_qa_12 - n_pa) / 16) (zs1 := 2 * (m_qa_12 - n_pa)) (by omega) (by omega)
  clear hh_22
  try clear hsz_12 htt_12 hrc_12 hrs_12
  try clear hb_124 hb_125
  refine lv_aload_n hx hb dX11_refuse_16 rfl (lv_at hl 0 rfl) ?_
  refine j7_read hx hb hown hK (C := RX11) (T := TX11) (N := 19) rfl hly_13_4 hlk_35 (hh_23.at 2 rfl) dX11_refuse_17 ?_
  refine j_ldcSw hx hb hown rstr469 dX11_refuse_20 ?_
  have hsz_24 := hh_23.2.2.2.2.2.1
  have htt_24 := hh_23.2.2.2.2.2.2.1
  refine W.room (fun hrc_24 hrs_24 => ?_)
  refine va_callv (A0 := jA base) (H0 := s.heap) (va_runV (As := [.ref str469]) (rest := []) ⟨hx, hb, hml, hown, hts⟩ (uX0_text l dC dI ca base B hB hAp hB2 hB196 G_12 H_12 bo str469 12 qc_12 qa_12 m_qa_12 LC LS) (cwV 1 hts (jgV (jWr_26 _ (List.mem_of_getElem? (i := 11) rfl)) (jWr_25 _ (List.mem_of_getElem? (i := 22) rfl)) (jWr_25 _ (List.mem_of_getElem? (i := 23) rfl)) (jWr_1 _ (List.mem_of_getElem? (i := 14) rfl)) (jWr_26 _ (List.mem_of_getElem? (i := 0) rfl))) rfl rfl rfl (by decide +kernel) ⟨by rw [← hR]; exact Nat.le_of_ble_eq_true rfl, by rw [← hR]; exact Nat.le_of_ble_eq_true rfl⟩) ⟨fun a U g mk q => by obtain ⟨q0, q1, q2, qK, q10, q11, q12, q13, q14⟩ := q; exact ⟨q0, q1, q2, jG.calling g mk a qK, (q10.moved (Vm.Alike.refl U.vm)), q11, q12, q13, q14⟩, hh_23.recv (C := RX0) (T := TX0) (N := 2) hB2 rfl (by decide) hg_17 hK, fun U hU hW => ⟨rfl, hU, hh_23.2.1, hG.step hW hU hh_23.1, (hstr469.moved hW.alike).kept hh_23.1.2.1, hg_17, hgq_12_0, (hh_23.2.2.1.sub (L1 := [(bo, 2, 1, .int qc_12), (bo, 2, 0, .ref qa_12)]) [0, 1] rfl), (by omega), (by omega), ⟨(by first | omega | rfl | assumption | fail), (by first | omega | rfl | assumption | fail), (by first | omega | rfl | assumption | fail), (by first | omega | rfl | assumption | fail), (by first | assumption | fail | omega), (by first | omega | rfl | assumption | fail)⟩⟩⟩ rfl rfl hl.1 rfl (lv_room (Nat.le_of_ble_eq_true rfl)) dX11_refuse_23 ⟨by rw [hRc]; omega, by rw [hRs]; omega⟩) hh_23.1 (fun q _ h => h) (fun q h => h) (fun u_24 t_24 H_24 locs_24 ht_24 hvm_24 hr_25 hb_24 hz_24 hk_24 hS_24 => ?_)
  obtain ⟨qc_24, qa_24, m_qa_24, G_24⟩ := u_24
  rw [ht_24] at hb_24
  simp only at hb_24
  obtain ⟨⟨hb_241, hb_242, hb_243, hb_244, hb_245, hb_246⟩, hgq_24_0, hN_24, hbO_24⟩ := hb_24
  have hy_26 := hh_23.iv 0 rfl
  have hh_24 : jSt (dC, dI) B base G0 G_24 EX11_refuse s.heap (((m_qa_12 - n_pa) / 16) + ((m_qa_24 - m_qa_12) / 16)) ((2 * (m_qa_12 - n_pa)) + (2 * (m_qa_24 - m_qa_12))) [(bo, 2, 1, .int qc_24), (bo, 2, 0, .ref qa_24), (r0, 13, 4, .ref bo), (r0, 13, 3, .ref ou)] [] [] H_24 locs_24 := (hh_23.callG hb_241 hb_242 hb_243 hb_244 hb_245 hS_24 rfl (L1 := [(r0, 13, 4, .ref bo), (r0, 13, 3, .ref ou)]) [2, 3] rfl rfl (M1 := []) [] rfl rfl (I1 := []) [] rfl rfl).more hb_246
  have hNn_24 : (jNk [0, 1, 2, 3, 4, 5, 6, 7, 8, 9, 10, 11, 12, 13, 14, 15, 16, 17, 175]) G0 G_24 := (hNn_12).tr hN_24
  have hg_27 := hb_242 _ _ hg_15
  have hg_28 := hb_242 _ _ hg_16
  have hg_29 := hb_242 _ _ hg_17
  have hg_30 := hb_242 _ _ hg_18
  have hd_31 := jOl.trO (hh_23.iv 1 rfl) hh_23.2.2.2.2.1 hbO_24 (by simp)
  have hh_32 := hh_24.addI (jOl.ie (dC := dC) (dI := dI) (G0 := G0) (k := 2) (rs := [bo, ou]) (H0 := s.heap) (F := [(2, 0), (2, 1)]) (C := RX0) (T := TX0) (N := 2) rfl (by decide) hh_24.2.2.2.2.1 (hd_31))
  clear hh_24
  have hyp_24 : qc_24.toInt ≤ (m_qa_24 : Nat) ∧ m_qa_24 ≤ 1048576 := by (try simp only at hr_25); omega
  have hy_33 := jYb.own hy_26 hbO_24 hb_242 hN_24 (by decide) (fun _ => ⟨_, _, _, hh_32.at 0 rfl, hh_32.at 1 rfl, hgq_24_0, hyp_24⟩)
  have hh_34 := hh_32.addI (jYb.ie hy_33)
  clear hh_32
  try simp only at hr_25
  obtain ⟨hr_25_0, hr_25_1, hr_25_2, hr_25_3, hr_25_4⟩ := hr_25
  have hh_35 := hh_34.wk (zc1 := (m_qa_24 - n_pa) / 16) (zs1 := 2 * (m_qa_24 - n_pa)) (by omega) (by omega)
  clear hh_34
  try clear hsz_24 htt_24 hrc_24 hrs_24
  try clear hb_244 hb_245
  refine lv_aload_n hx hb dX11_refuse_26 rfl (lv_at hl 0 rfl) ?_
  refine j7_read hx hb hown hK (C := RX11) (T := TX11) (N := 19) rfl hly_13_4 hlk_35 (hh_35.at 2 rfl) dX11_refuse_27 ?_
  refine lv_iload_n hx hb dX11_refuse_30 rfl (lv_at hl 2 rfl) ?_
  have hsz_36 := hh_35.2.2.2.2.2.1
  have htt_36 := hh_35.2.2.2.2.2.2.1
  refine W.room (fun hrc_36 hrs_36 => ?_)
  refine j_callx (A0 := jA base) (H0 := s.heap) (va_runS (As := [.int a2]) (rest := [.ref bo]) ⟨hx, hb, hml, hown, hts⟩ (uX11_errorText l dC dI ca base B hB hAp G_24 H_24 a2) (va_cwS 1 hts (jgS (jWr_26 _ (List.mem_of_getElem? (i := 17) rfl)) (jWr_26 _ (List.mem_of_getElem? (i := 18) rfl)) (jWr_1 _ (List.mem_of_getElem? (i := 2) rfl)) (jWr_26 _ (List.mem_of_getElem? (i := 19) rfl))) rfl rfl rfl (by decide +kernel) ⟨by rw [← hR]; exact Nat.le_of_ble_eq_true rfl, by rw [← hR]; exact Nat.le_of_ble_eq_true rfl⟩) ⟨fun a U g mk q => by obtain ⟨q0, q1, q2, qK, q10, q11⟩ := q; exact ⟨q0, q1, q2, jG.calling g mk a qK, q10, q11⟩, fun U hU hW => ⟨rfl, hU, hh_35.2.1, hG.step hW hU hh_35.1, jP.nil, trivial⟩⟩ rfl rfl hl.1 rfl (lv_room (Nat.le_of_ble_eq_true rfl)) dX11_refuse_31 ⟨by rw [hRc]; show _ + 0 ≤ _; omega, by rw [hRs]; show _ + 0 ≤ _; omega⟩) hh_35.1 (fun q _ h => h) (fun q h => h) (fun r_37 u_36 t_36 H_36 locs_36 ht_36 hvm_36 hr_37 hb_36 hz_36 hk_36 hS_36 => ?_)
  rw [ht_36] at hb_36
  obtain ⟨hb_36, hbV_36⟩ := hb_36
  obtain ⟨hb_361, hb_362, hb_363, hb_364, hb_365⟩ := hb_36
  have hh_36 : jSt (dC, dI) B base G0 G_24 EX11_refuse s.heap ((m_qa_24 - n_pa) / 16) (2 * (m_qa_24 - n_pa)) [(bo, 2, 1, .int qc_24), (bo, 2, 0, .ref qa_24), (r0, 13, 4, .ref bo), (r0, 13, 3, .ref ou)] [] [(jFy, jYb dC dI G_24), ([(2, 0), (2, 1)], jOl (dC, dI) G0 2 [bo, ou] s.heap)] H_36 locs_36 := ((hh_35.call hb_361 hb_362 hb_363 hb_364 hS_36 rfl (L1 := [(bo, 2, 1, .int qc_24), (bo, 2, 0, .ref qa_24), (r0, 13, 4, .ref bo), (r0, 13, 3, .ref ou)]) [0, 1, 2, 3] rfl rfl (M1 := []) [] rfl rfl (I1 := [(jFy, jYb dC dI G_24), ([(2, 0), (2, 1)], jOl (dC, dI) G0 2 [bo, ou] s.heap)]) [0, 1] rfl rfl).more hb_365)
  obtain ⟨rfl, hn_36⟩ := hr_37
  have hstr_36 : jStr base u_36.1 u_36.2 s s.heap := hbV_36.back hvm_36 hbs hh_36.1.2.1
  clear hh_35 ht_36 hvm_36 hz_36 hk_36 hS_36 hb_361 hb_362 hb_363 hb_364 hb_365
  have hsz_38 := hh_36.2.2.2.2.2.1
  have htt_38 := hh_36.2.2.2.2.2.2.1
  refine W.room (fun hrc_38 hrs_38 => ?_)
  refine va_callv (A0 := jA base) (H0 := s.heap) (va_runV (As := [.ref u_36.1]) (rest := []) ⟨hx, hb, hml, hown, hts⟩ (uX0_text l dC dI ca base B hB hAp hB2 hB196 G_24 H_36 bo u_36.1 u_36.2 qc_24 qa_24 m_qa_24 LC LS) (cwV 1 hts (jgV (jWr_26 _ (List.mem_of_getElem? (i := 11) rfl)) (jWr_25 _ (List.mem_of_getElem? (i := 22) rfl)) (jWr_25 _ (List.mem_of_getElem? (i := 23) rfl)) (jWr_1 _ (List.mem_of_getElem? (i := 14) rfl)) (jWr_26 _ (List.mem_of_getElem? (i := 0) rfl))) rfl rfl rfl (by decide +kernel) ⟨by rw [← hR]; exact Nat.le_of_ble_eq_true rfl, by rw [← hR]; exact Nat.le_of_ble_eq_true rfl⟩) ⟨fun a U g mk q => by obtain ⟨q0, q1, q2, qK, q10, q11, q12, q13, q14⟩ := q; exact ⟨q0, q1, q2, jG.calling g mk a qK, (q10.moved (Vm.Alike.refl U.vm)), q11, q12, q13, q14⟩, hh_36.recv (C := RX0) (T := TX0) (N := 2) hB2 rfl (by decide) hg_29 hK, fun U hU hW => ⟨rfl, hU, hh_36.2.1, hG.step hW hU hh_36.1, (hstr_36.moved hW.alike).kept hh_36.1.2.1, hg_29, hgq_24_0, (hh_36.2.2.1.sub (L1 := [(bo, 2, 1, .int qc_24), (bo, 2, 0, .ref qa_24)]) [0, 1] rfl), (by omega), (by omega), ⟨(by first | omega | rfl | assumption | fail), (by first | omega | rfl | assumption | fail), (by first | omega | rfl | assumption | fail), (by first | omega | rfl | assumption | fail), (by first | assumption | fail | omega), (by first | omega | rfl | assumption | fail)⟩⟩⟩ rfl rfl hl.1 rfl (lv_room (Nat.le_of_ble_eq_true rfl)) dX11_refuse_34 ⟨by rw [hRc]; omega, by rw [hRs]; omega⟩) hh_36.1 (fun q _ h => h) (fun q h => h) (fun u_38 t_38 H_38 locs_38 ht_38 hvm_38 hr_39 hb_38 hz_38 hk_38 hS_38 => ?_)
  obtain ⟨qc_38, qa_38, m_qa_38, G_38⟩ := u_38
  rw [ht_38] at hb_38
  simp only at hb_38
  obtain ⟨⟨hb_381, hb_382, hb_383, hb_384, hb_385, hb_386⟩, hgq_38_0, hN_38, hbO_38⟩ := hb_38
  have hy_40 := hh_36.iv 0 rfl
  have hh_38 : jSt (dC, dI) B base G0 G_38 EX11_refuse s.heap (((m_qa_24 - n_pa) / 16) + ((m_qa_38 - m_qa_24) / 16)) ((2 * (m_qa_24 - n_pa)) + (2 * (m_qa_38 - m_qa_24))) [(bo, 2, 1, .int qc_38), (bo, 2, 0, .ref qa_38), (r0, 13, 4, .ref bo), (r0, 13, 3, .ref ou)] [] [] H_38 locs_38 := (hh_36.callG hb_381 hb_382 hb_383 hb_384 hb_385 hS_38 rfl (L1 := [(r0, 13, 4, .ref bo), (r0, 13, 3, .ref ou)]) [2, 3] rfl rfl (M1 := []) [] rfl rfl (I1 := []) [] rfl rfl).more hb_386
  have hNn_38 : (jNk [0, 1, 2, 3, 4, 5, 6, 7, 8, 9, 10, 11, 12, 13, 14, 15, 16, 17, 175]) G0 G_38 := (hNn_24).tr hN_38
  have hg_41 := hb_382 _ _ hg_27
  have hg_42 := hb_382 _ _ hg_28
  have hg_43 := hb_382 _ _ hg_29
  have hg_44 := hb_382 _ _ hg_30
  have hd_45 := jOl.trO (hh_36.iv 1 rfl) hh_36.2.2.2.2.1 hbO_38 (by simp)
  have hh_46 := hh_38.addI (jOl.ie (dC := dC) (dI := dI) (G0 := G0) (k := 2) (rs := [bo, ou]) (H0 := s.heap) (F := [(2, 0), (2, 1)]) (C := RX0) (T := TX0) (N := 2) rfl (by decide) hh_38.2.2.2.2.1 (hd_45))
  clear hh_38
  have hyp_38 : qc_38.toInt ≤ (m_qa_38 : Nat) ∧ m_qa_38 ≤ 1048576 := by (try simp only at hr_39); omega
  have hy_47 := jYb.own hy_40 hbO_38 hb_382 hN_38 (by decide) (fun _ => ⟨_, _, _, hh_46.at 0 rfl, hh_46.at 1 rfl, hgq_38_0, hyp_38⟩)
  have hh_48 := hh_46.addI (jYb.ie hy_47)
  clear hh_46
  try simp only at hr_39
  obtain ⟨hr_39_0, hr_39_1, hr_39_2, hr_39_3, hr_39_4⟩ := hr_39
  have hh_49 := hh_48.wk (zc1 := (m_qa_38 - n_pa) / 16) (zs1 := 2 * (m_qa_38 - n_pa)) (by omega) (by omega)
  clear hh_48
  try clear hsz_38 htt_38 hrc_38 hrs_38
  try clear hb_384 hb_385
  refine lv_aload_n hx hb dX11_refuse_37 rfl (lv_at hl 0 rfl) ?_
  refine j7_read hx hb hown hK (C := RX11) (T := TX11) (N := 19) rfl hly_13_4 hlk_35 (hh_49.at 2 rfl) dX11_refuse_38 ?_
  refine j_ldcSw hx hb hown rstr475 dX11_refuse_41 ?_
  have hsz_50 := hh_49.2.2.2.2.2.1
  have htt_50 := hh_49.2.2.2.2.2.2.1
  refine W.room (fun hrc_50 hrs_50 => ?_)
  refine va_callv (A0 := jA base) (H0 := s.heap) (va_runV (As := [.ref str475]) (rest := []) ⟨hx, hb, hml, hown, hts⟩ (uX0_text l dC dI ca base B hB hAp hB2 hB196 G_38 H_38 bo str475 3 qc_38 qa_38 m_qa_38 LC LS) (cwV 1 hts (jgV (jWr_26 _ (List.mem_of_getElem? (i := 11) rfl)) (jWr_25 _ (List.mem_of_getElem? (i := 22) rfl)) (jWr_25 _ (List.mem_of_getElem? (i := 23) rfl)) (jWr_1 _ (List.mem_of_getElem? (i := 14) rfl)) (jWr_26 _ (List.mem_of_getElem? (i := 0) rfl))) rfl rfl rfl (by decide +kernel) ⟨by rw [← hR]; exact Nat.le_of_ble_eq_true rfl, by rw [← hR]; exact Nat.le_of_ble_eq_true rfl⟩) ⟨fun a U g mk q => by obtain ⟨q0, q1, q2, qK, q10, q11, q12, q13, q14⟩ := q; exact ⟨q0, q1, q2, jG.calling g mk a qK, (q10.moved (Vm.Alike.refl U.vm)), q11, q12, q13, q14⟩, hh_49.recv (C := RX0) (T := TX0) (N := 2) hB2 rfl (by decide) hg_43 hK, fun U hU hW => ⟨rfl, hU, hh_49.2.1, hG.step hW hU hh_49.1, (hstr475.moved hW.alike).kept hh_49.1.2.1, hg_43, hgq_38_0, (hh_49.2.2.1.sub (L1 := [(bo, 2, 1, .int qc_38), (bo, 2, 0, .ref qa_38)]) [0, 1] rfl), (by omega), (by omega), ⟨(by first | omega | rfl | assumption | fail), (by first | omega | rfl | assumption | fail), (by first | omega | rfl | assumption | fail), (by first | omega | rfl | assumption | fail), (by first | assumption | fail | omega), (by first | omega | rfl | assumption | fail)⟩⟩⟩ rfl rfl hl.1 rfl (lv_room (Nat.le_of_ble_eq_true rfl)) dX11_refuse_44 ⟨by rw [hRc]; omega, by rw [hRs]; omega⟩) hh_49.1 (fun q _ h => h) (fun q h => h) (fun u_50 t_50 H_50 locs_50 ht_50 hvm_50 hr_51 hb_50 hz_50 hk_50 hS_50 => ?_)
  obtain ⟨qc_50, qa_50, m_qa_50, G_50⟩ := u_50
  rw [ht_50] at hb_50
  simp only at hb_50
  obtain ⟨⟨hb_501, hb_502, hb_503, hb_504, hb_505, hb_506⟩, hgq_50_0, hN_50, hbO_50⟩ := hb_50
  have hy_52 := hh_49.iv 0 rfl
  have hh_50 : jSt (dC, dI) B base G0 G_50 EX11_refuse s.heap (((m_qa_38 - n_pa) / 16) + ((m_qa_50 - m_qa_38) / 16)) ((2 * (m_qa_38 - n_pa)) + (2 * (m_qa_50 - m_qa_38))) [(bo, 2, 1, .int qc_50), (bo, 2, 0, .ref qa_50), (r0, 13, 4, .ref bo), (r0, 13, 3, .ref ou)] [] [] H_50 locs_50 := (hh_49.callG hb_501 hb_502 hb_503 hb_504 hb_505 hS_50 rfl (L1 := [(r0, 13, 4, .ref bo), (r0, 13, 3, .ref ou)]) [2, 3] rfl rfl (M1 := []) [] rfl rfl (I1 := []) [] rfl rfl).more hb_506
  have hNn_50 : (jNk [0, 1, 2, 3, 4, 5, 6, 7, 8, 9, 10, 11, 12, 13, 14, 15, 16, 17, 175]) G0 G_50 := (hNn_38).tr hN_50
  have hg_53 := hb_502 _ _ hg_41
  have hg_54 := hb_502 _ _ hg_42
  have hg_55 := hb_502 _ _ hg_43
  have hg_56 := hb_502 _ _ hg_44
  have hd_57 := jOl.trO (hh_49.iv 1 rfl) hh_49.2.2.2.2.1 hbO_50 (by simp)
  have hh_58 := hh_50.addI (jOl.ie (dC := dC) (dI := dI) (G0 := G0) (k := 2) (rs := [bo, ou]) (H0 := s.heap) (F := [(2, 0), (2, 1)]) (C := RX0) (T := TX0) (N := 2) rfl (by decide) hh_50.2.2.2.2.1 (hd_57))
  clear hh_50
  have hyp_50 : qc_50.toInt ≤ (m_qa_50 : Nat) ∧ m_qa_50 ≤ 1048576 := by (try simp only at hr_51); omega
  have hy_59 := jYb.own hy_52 hbO_50 hb_502 hN_50 (by decide) (fun _ => ⟨_, _, _, hh_58.at 0 rfl, hh_58.at 1 rfl, hgq_50_0, hyp_50⟩)
  have hh_60 := hh_58.addI (jYb.ie hy_59)
  clear hh_58
  try simp only at hr_51
  obtain ⟨hr_51_0, hr_51_1, hr_51_2, hr_51_3, hr_51_4⟩ := hr_51
  have hh_61 := hh_60.wk (zc1 := (m_qa_50 - n_pa) / 16) (zs1 := 2 * (m_qa_50 - n_pa)) (by omega) (by omega)
  clear hh_60
  try clear hsz_50 htt_50 hrc_50 hrs_50
  try clear hb_504 hb_505
  refine lv_aload_n hx hb dX11_refuse_47 rfl (lv_at hl 0 rfl) ?_
  obtain ⟨v_64, hv_64, hh_65⟩ := hh_61.pin (C := RX0) (T := TX0) (N := 2) hB2 rfl (by decide) hg_56 (i := 1) (by decide) rfl
  obtain ⟨count_66, rfl, hlocount_66, hhicount_66, hfxcount_66⟩ := hv_64
  obtain ⟨v_67, hv_67, hh_68⟩ := hh_65.pin (C := RX0) (T := TX0) (N := 2) hB2 rfl (by decide) hg_56 (i := 0) (by decide) rfl
  obtain ⟨row_69, nrow_69, rfl, hg_row_69, hlorow_69, hhirow_69, hpwrow_69, hfxrow_69⟩ := jBr.k6 (by decide) hv_67
  have hsz_62 := hh_68.2.2.2.2.2.1
  have htt_62 := hh_68.2.2.2.2.2.2.1
  refine W.room (fun hrc_62 hrs_62 => ?_)
  refine va_callv (A0 := jA base) (H0 := s.heap) (va_runV (As := []) (rest := []) ⟨hx, hb, hml, hown, hts⟩ (uX11_send l dC dI ca base B hB hAp hB2 hB4 hB13 hB17 hB196 hB199 G_50 H_50 r0 bo qc_50 qa_50 m_qa_50 ou count_66 row_69 nrow_69) (cwV 0 hts (jgV (jWr_26 _ (List.mem_of_getElem? (i := 20) rfl)) (jWr_26 _ (List.mem_of_getElem? (i := 21) rfl)) (jWr_26 _ (List.mem_of_getElem? (i := 22) rfl)) (jWr_1 _ (List.mem_of_getElem? (i := 2) rfl)) (jWr_26 _ (List.mem_of_getElem? (i := 23) rfl))) rfl rfl rfl (by decide +kernel) ⟨by rw [← hR]; exact Nat.le_of_ble_eq_true rfl, by rw [← hR]; exact Nat.le_of_ble_eq_true rfl⟩) ⟨fun a U g mk q => by obtain ⟨q0, q1, q2, qK, q10, q11, q12, q13, q14, q15, q16, q17⟩ := q; exact ⟨q0, q1, q2, jG.calling g mk a qK, q10, q11, q12, q13, q14, q15, q16, q17⟩, hh_68.recv (C := RX11) (T := TX11) (N := 19) hB13 rfl (by decide) hg_53 hK, fun U hU hW => ⟨rfl, hU, hh_68.2.1, hG.step hW hU hh_68.1, hg_53, hg_55, hgq_50_0, hg_56, hg_row_69, (hh_68.2.2.1.sub (L1 := [(r0, 13, 4, .ref bo), (bo, 2, 1, .int qc_50), (bo, 2, 0, .ref qa_50), (r0, 13, 3, .ref ou), (ou, 2, 1, .int count_66), (ou, 2, 0, .ref row_69)]) [4, 2, 3, 5, 1, 0] rfl), (hh_68.2.2.2.2.2.2.2.2.sub (L1 := [(jFy, jYb dC dI G_50)]) [0] rfl), ⟨(by first | omega | rfl | assumption | fail), (by first | omega | rfl | assumption | fail), (by first | omega | rfl | assumption | fail), (by first | omega | rfl | assumption | fail), (by first | omega | rfl | assumption | fail), (by first | omega | rfl | assumption | fail)⟩⟩⟩ rfl rfl hl.1 rfl (lv_room (Nat.le_of_ble_eq_true rfl)) dX11_refuse_48 ⟨by rw [hRc]; show _ + 0 ≤ _; omega, by rw [hRs]; show _ + 0 ≤ _; omega⟩) hh_68.1 (fun q _ h => h) (fun q h => h) (fun u_62 t_62 H_62 locs_62 ht_62 hvm_62 hr_63 hb_62 hz_62 hk_62 hS_62 => ?_)
  rw [ht_62] at hb_62
  obtain ⟨hb_62, hbE_62⟩ := hb_62
  obtain ⟨hb_62, hbO_62⟩ := hb_62
  obtain ⟨hb_621, hb_622, hb_623, hb_624, hb_625⟩ := hb_62
  have hh_62 : jSt (dC, dI) B base G0 G_50 EX11_refuse s.heap ((m_qa_50 - n_pa) / 16) (2 * (m_qa_50 - n_pa)) [(r0, 13, 4, .ref bo), (r0, 13, 3, .ref ou)] [] [(jFy, jYb dC dI G_50)] H_62 locs_62 := (((hh_68.call hb_621 hb_622 hb_623 hb_624 hS_62 rfl (L1 := [(r0, 13, 4, .ref bo), (r0, 13, 3, .ref ou)]) [4, 5] rfl rfl (M1 := []) [] rfl rfl (I1 := []) [] rfl rfl).more hb_625)).addIs hbE_62
  have hh_70 := hh_62.more (P1 := [(bo, 2, 1, .int qc_50), (bo, 2, 0, .ref qa_50)]) (jP.cons hg_55 (hbO_62 _ _ _ _ (jn1 (by first | assumption | exact Ne.symm (by assumption) | exact jnek hg_55 hg_56 (by decide))) hg_55 (hh_68.at 2 rfl)) (jP.cons hg_55 (hbO_62 _ _ _ _ (jn1 (by first | assumption | exact Ne.symm (by assumption) | exact jnek hg_55 hg_56 (by decide))) hg_55 (hh_68.at 3 rfl)) jP.nil))
  have hd_71 := jOl.trL (hh_68.iv 1 rfl) hh_68.2.2.2.2.1 hbO_62 (by simp)
  have hh_72 := hh_70.addI (jOl.ie (dC := dC) (dI := dI) (G0 := G0) (k := 2) (rs := [bo, ou]) (H0 := s.heap) (F := [(2, 0), (2, 1)]) (C := RX0) (T := TX0) (N := 2) rfl (by decide) hh_70.2.2.2.2.1 (hd_71))
  clear hh_70
  clear hh_68 ht_62 hvm_62 hz_62 hk_62 hS_62 hb_621 hb_622 hb_623 hb_624 hb_625
  clear  hbE_62
  have hsz_73 := hh_72.2.2.2.2.2.1
  have htt_73 := hh_72.2.2.2.2.2.2.1
  refine W.room (fun hrc_73 hrs_73 => ?_)
  refine W.widen (k := LC - s.heap.size) (n := LS - jTot s.heap) (by omega) (by omega) ?_
  rw [hQ]
  exact W.vret hx hb hr (fun t ht hW => ⟨⟨(qc_50, qa_50, m_qa_50, G_50), rfl, by (try dsimp only); exact ⟨(by first | omega | rfl | assumption | fail), (by first | omega | rfl | assumption | fail), (by first | omega | rfl | assumption | fail), (by first | omega | rfl | assumption | fail), (by first | assumption | fail | omega)⟩, ⟨hh_72.ra (by first | omega | (simp only; omega)) (by first | omega | (simp only; omega)) (M1 := [(bo, 2, 1, .int qc_50), (bo, 2, 0, .ref qa_50)]) [0, 1] rfl ht, hgq_50_0, hNn_50, by rw [ht]; exact hh_72.iv 0 rfl, by rw [ht]; exact hh_72.2.2.2.2.2.2.2.2.sub (L1 := [(jFy, jYb dC dI G_50)]) [1] rfl⟩⟩, by rw [ht]; try exact hh_72.1.1, fun q h9 hq => by rw [ht]; try exact hh_72.1.2.1 q h9 hq⟩) hh_72.1.2.2 dX11_refuse_51
end
section
def EJx4a65c_fastRemove_b59b0L1 : List (Nat × Nat) := [(1, 0), (1, 2), (221, 0)]
def EJx4a65c_remove_915e3L1 : List (Nat × Nat) := [(1, 0), (1, 2), (221, 0)]
set_option maxHeartbeats 4000000 in
set_option maxRecDepth 20000 in
theorem uJx4a65c_fastRemove_b59b0L1 (l : Launch) (dC : Nat → ClassId) (dI : Nat → Nat → Nat) (ca : Nat → ClassId) (base : Nat) (B : jF) (hB : jBok B) (hAp : jAp (dC, dI)) (hB1 : ∀ n G a H, B 1 n G a H ↔ jOb (dC, dI) 1 3 (F1 n G) a H) (hB3 : ∀ n G a H, B 3 n G a H ↔ jOb (dC, dI) 3 17 (F3 n G) a H) (hB221 : ∀ n G a H, B 221 n G a H ↔ jAq (dC, dI) (ca 9) (jQn 3 0) n G a H) (G0 : jT) (H0 : Heap) (r0 : Nat) (r1 : Nat) (a2 : Int32) (n1 : Nat) (lz : Int32) (wl : jWl9) : Met l yJx4a65c_fastRemove_b59b0 (jw yJx4a65c_fastRemove_b59b0 cJx4a65c_fastRemove_b59b0 4 none) ({ frames := 1, cells := 0, slots := 0, locals := 61 }) (va_Pc [.ref r0, .ref r1, .int a2] (fun U => U.heap = H0 ∧ jX B base G0 [] H0 ∧ jG dC dI ca base U ∧ jK7 dC dI ca base U ∧ G0 r0 = some (1, 1) ∧ G0 r1 = some (221, n1) ∧ jP (dC, dI) G0 H0 [(r0, 1, 1, .ref r1), (r0, 1, 2, .int lz)] ∧ jIs (dC, dI) G0 H0 [(jFl, jLs dC dI ca G0 3 none wl)] ∧ 0 ≤ a2.toInt ∧ a2.toInt < lz.toInt)) (va_Qv (S := Int32) (fun u => u.toInt = lz.toInt - 1) (fun u t => ((jRt (dC, dI) B base G0 EJx4a65c_fastRemove_b59b0L1 H0 [(r0, 1, 2, .int u)] t.heap) ∧ jOw (dC, dI) G0 1 r0 H0 t.heap) ∧ jIs (dC, dI) G0 t.heap [(jFl, jLs dC dI ca G0 3 none (wl.s1 (wl.1 - 1) (jRmv wl.2.1 (a2.toInt).toNat)))]) (jA base)) 0 0 (jA base) := by
  refine Met.ofW (cc := cJx4a65c_fastRemove_b59b0) (maxL := 4) (ret := none) (by decide) rfl ?_
  intro p e s m args below meth c s₁ Bd hml hv
  obtain ⟨rfl, hH0, hX, hG, hK7, hg_r0, hg_r1, hP0, hI0, hp0, hp1⟩ := hv
  have hK := hG.1
  have hx := Bd.exec
  have hb := Bd.bytes
  have hr := Bd.returns
  have hts := atoms_spec (ws := (jw yJx4a65c_fastRemove_b59b0 cJx4a65c_fastRemove_b59b0 4 none)) Bd.pre
  have htw : ∀ w ∈ jWl, w.before _ s = true := fun w h => hts w (List.mem_cons_of_mem _ h)
  have hown : s.vm.findClass RJx4a65c = some m.cls := findClass_of_methodNamed Bd.named
  have hlocks := Bd.notSynchronized
  obtain ⟨Q, hQ⟩ : ∃ Q, Q = MQ below (va_Qv (S := Int32) (fun u => u.toInt = lz.toInt - 1) (fun u t => ((jRt (dC, dI) B base G0 EJx4a65c_fastRemove_b59b0L1 H0 [(r0, 1, 2, .int u)] t.heap) ∧ jOw (dC, dI) G0 1 r0 H0 t.heap) ∧ jIs (dC, dI) G0 t.heap [(jFl, jLs dC dI ca G0 3 none (wl.s1 (wl.1 - 1) (jRmv wl.2.1 (a2.toInt).toNat)))]) (jA base)) ([.ref r0, .ref r1, .int a2] : List Value).toArray s 0 0 (jA base) := ⟨_, rfl⟩
  rw [← hQ]
  have hl := lv_entry ([.ref r0, .ref r1, .int a2]) (n := 4) (Nat.le_of_ble_eq_true rfl)
  rw [lg_entry_eq]
  generalize (lg_sl ([.ref r0, .ref r1, .int a2]) ++ List.replicate (4 - (lg_sl ([.ref r0, .ref r1, .int a2])).length) Slot.unset).toArray = ls at hl ⊢
  have hl : lv_has ls 4 [(0, .ref r0), (1, .ref r1), (2, .int a2)] := hl
  generalize hR : (headSpec (jw yJx4a65c_fastRemove_b59b0 cJx4a65c_fastRemove_b59b0 4 none) ({ frames := 1, cells := 0, slots := 0, locals := 61 })).room = R
  subst hH0
  have hh : jSt (dC, dI) B base G0 G0 EJx4a65c_fastRemove_b59b0L1 s.heap 0 0 [(r0, 1, 1, .ref r1), (r0, 1, 2, .int lz)] [] [(jFl, jLs dC dI ca G0 3 none wl)] s.heap [] := jSt.start hX hP0 jMc.nil hI0
  clear hX hP0
  have hk0 : (0 : Int32).toInt = 0 := by decide
  have hk1 : (1 : Int32).toInt = 1 := by decide
  have hly_1_0 := htw (u_lay RJx4a65c TJx4a65c 0) (jWc_wsJx4a65c0 _ (u_in_lay (by decide)))
  have hly_1_2 := htw (u_lay RJx4a65c TJx4a65c 2) (jWc_wsJx4a65c0 _ (u_in_lay (by decide)))
  have hlk_63 := (htw (.fieldLink RJx4a65c 63 "java/util/ArrayList" "modCount" "I") (jWr_33 _ (List.mem_of_getElem? (i := 11) rfl)))
  have hlk_48 := (htw (.fieldLink RJx4a65c 48 "java/util/ArrayList" "size" "I") (jWr_28 _ (List.mem_of_getElem? (i := 2) rfl)))
  have hrg_a2 := jb_rng a2
  have hh_1 := hh.addI (jOw.ie (dC := dC) (dI := dI) (G0 := G0) (k := 1) (r := r0) (H0 := s.heap) (F := [(1, 0), (1, 1), (1, 2)]) (C := RJx4a65c) (T := TJx4a65c) (N := 3) rfl (by decide) hh.2.2.2.2.1 (jOw.rf))
  clear hh
  obtain ⟨lz_2, lx_2, hl1_2, hl2_2, hl3_2, hl4_2⟩ := jLs.at (hh_1.iv 1 rfl) hg_r0
  obtain rfl : lz = lz_2 := Value.int.inj (jf.uniq (hh_1.at 1 rfl) hl1_2)
  have hl3_2 : 0 ≤ lz.toInt ∧ lz.toInt ≤ 3 := hl3_2
  obtain rfl : r1 = lx_2 := Value.ref.inj (jf.uniq (hh_1.at 0 rfl) hl2_2)
  rcases hl4_2 with ⟨hl9_2, hl5_2, hl0_2, hlE_2⟩ | ⟨lm_2, lf_2, hg_lx_2, hlm_2, hl6_2, hl7_2, hl8_2, hlw_2, hlY_2⟩
  · skip
    exact (by omega : False).elim
  · skip
    obtain rfl : n1 = lm_2 := by have h9 := Option.some.inj (hg_r1.symm.trans hg_lx_2); exact congrArg Prod.snd h9
    have hd_3 := jLs.less (hh_1.iv 1 rfl) r0
    have hh_4 := hh_1.sub (L1 := [(r0, 1, 1, .ref r1), (r0, 1, 2, .int lz)]) [0, 1] rfl (M1 := []) [] rfl (I1 := [([(1, 0), (1, 1), (1, 2)], jOw (dC, dI) G0 1 r0 s.heap)]) [0] rfl
    clear hh_1
    have hh_5 := hh_4.addI (jLs.ie hd_3)
    clear hh_4
    have hh_6 := hh_5.addI (jQc.ie hl7_2 hg_lx_2 (by decide) (by decide))
    clear hh_5
    refine lv_aload_n hx hb dJx4a65c_fastRemove_b59b0_0 rfl (lv_at hl 0 rfl) ?_
    refine lv_dup hx hb dJx4a65c_fastRemove_b59b0_1 rfl ?_
    obtain ⟨v_7, hv_7, hh_8⟩ := hh_6.pin (C := RJx4a65c) (T := TJx4a65c) (N := 3) hB1 rfl (by decide) hg_r0 (i := 0) (by decide) rfl
    clear hh_6
    obtain ⟨modCount_9, rfl⟩ := hv_7
    refine j7_readS hx hb hown hK (C := RJx4a65c) (T := TJx4a65c) (N := 3) rfl hly_1_0 hlk_63 (htw (.sameField "java/util/ArrayList" "java/util/AbstractList" "modCount" "I") (jWr_33 _ (List.mem_of_getElem? (i := 12) rfl))) (hh_8.at 0 rfl) dJx4a65c_fastRemove_b59b0_2 ?_
    refine lv_iconst (v := 1) hx hb dJx4a65c_fastRemove_b59b0_5 (by decide) ?_
    refine lv_iadd hx hb dJx4a65c_fastRemove_b59b0_6 ?_
    refine lv_topi (fun z_10 ez_10 => ?_)
    have hd_12 := hh_8.iv 2 rfl
    have hh_13 := hh_8.sub (L1 := [(r0, 1, 0, .int modCount_9), (r0, 1, 1, .ref r1), (r0, 1, 2, .int lz)]) [0, 1, 2] rfl (M1 := []) [] rfl (I1 := [([(221, 0)], jQc dC dI (ca 9) r1 n1 lf_2), (jFl, jLs dC dI ca G0 3 (some r0) wl)]) [0, 1] rfl
    clear hh_8
    refine j7_putS hx hb hown hK hh_13 hB hAp hB1 (C := RJx4a65c) (T := TJx4a65c) (N := 3) rfl (by decide) hg_r0 (i := 0) (by decide) hly_1_0 rfl hlk_63 (htw (.sameField "java/util/ArrayList" "java/util/AbstractList" "modCount" "I") (jWr_33 _ (List.mem_of_getElem? (i := 12) rfl))) rfl (ty := .int) (v := .int z_10) (by decide +kernel) rfl rfl (⟨_, rfl⟩) rfl (L1 := [(r0, 1, 1, .ref r1), (r0, 1, 2, .int lz)]) [1, 2] rfl rfl rfl dJx4a65c_fastRemove_b59b0_7 (fun H_11 locs_11 hr_11 hh_11 => ?_)
    clear hh_13
    have hd_12n := jOw.put hd_12 hr_11
    have hh_14 := hh_11.addI (jOw.ie (dC := dC) (dI := dI) (G0 := G0) (k := 1) (r := r0) (H0 := s.heap) (F := [(1, 0), (1, 1), (1, 2)]) (C := RJx4a65c) (T := TJx4a65c) (N := 3) rfl (by decide) hh_11.2.2.2.2.1 (hd_12n))
    clear hh_11
    clear hd_12 hd_12n
    clear hr_11
    refine lv_aload_n hx hb dJx4a65c_fastRemove_b59b0_10 rfl (lv_at hl 0 rfl) ?_
    refine j7_read hx hb hown hK (C := RJx4a65c) (T := TJx4a65c) (N := 3) rfl hly_1_2 hlk_48 (hh_14.at 2 rfl) dJx4a65c_fastRemove_b59b0_11 ?_
    refine lv_iconst (v := 1) hx hb dJx4a65c_fastRemove_b59b0_14 (by decide) ?_
    refine lv_isub hx hb dJx4a65c_fastRemove_b59b0_15 ?_
    refine lv_topi (fun z_15 ez_15 => ?_)
    have hz_15 : z_15.toInt = lz.toInt - 1 := by rw [ez_15]; exact jb_isub2 (rfl) ((by decide)) (by omega)
    refine lv_dup hx hb dJx4a65c_fastRemove_b59b0_16 rfl ?_
    refine lv_istore_n (lv' := [(3, .int z_15), (0, .ref r0), (1, .ref r1), (2, .int a2)]) hx hb dJx4a65c_fastRemove_b59b0_17 rfl hl (by decide) rfl (fun ls hl => ?_)
    refine lv_iload_n hx hb dJx4a65c_fastRemove_b59b0_18 rfl (lv_at hl 3 rfl) ?_
    refine lv_icmp_le (tgt := 34) hx hb dJx4a65c_fastRemove_b59b0_19 (by decide) (fun c_16 => ?_) (fun c_16 => ?_)
    · skip
      have c_16' : z_15.toInt ≤ a2.toInt := jb_le (rfl) (rfl) c_16
      refine lv_aload_n hx hb dJx4a65c_fastRemove_b59b0_34 rfl (lv_at hl 2 rfl) ?_
      refine lv_aload_n hx hb dJx4a65c_fastRemove_b59b0_35 rfl (lv_at hl 1 rfl) ?_
      refine lv_iload_n hx hb dJx4a65c_fastRemove_b59b0_36 rfl (lv_at hl 0 rfl) ?_
      refine lv_dup_x1 hx hb dJx4a65c_fastRemove_b59b0_37 rfl rfl ?_
      have hd_18 := hh_14.iv 0 rfl
      have hh_19 := hh_14.sub (L1 := [(r0, 1, 0, .int z_10), (r0, 1, 1, .ref r1), (r0, 1, 2, .int lz)]) [0, 1, 2] rfl (M1 := []) [] rfl (I1 := [([(221, 0)], jQc dC dI (ca 9) r1 n1 lf_2), (jFl, jLs dC dI ca G0 3 (some r0) wl)]) [1, 2] rfl
      clear hh_14
      have hd_20 := hh_19.iv 1 rfl
      have hh_21 := hh_19.sub (L1 := [(r0, 1, 0, .int z_10), (r0, 1, 1, .ref r1), (r0, 1, 2, .int lz)]) [0, 1, 2] rfl (M1 := []) [] rfl (I1 := [([(221, 0)], jQc dC dI (ca 9) r1 n1 lf_2)]) [0] rfl
      clear hh_19
      refine j7_putX hx hb hown hK hh_21 hB hAp hB1 (C := RJx4a65c) (T := TJx4a65c) (N := 3) rfl (by decide) hg_r0 (i := 2) (by decide) hly_1_2 rfl hlk_48 rfl (ty := .int) (v := .int z_15) (by decide +kernel) rfl rfl (⟨_, rfl, by omega, by omega⟩) rfl (L1 := [(r0, 1, 0, .int z_10), (r0, 1, 1, .ref r1)]) [0, 1] rfl rfl rfl dJx4a65c_fastRemove_b59b0_38 (fun H_17 locs_17 hr_17 hh_17 => ?_)
      clear hh_21
      have hd_20n := jLs.fld hd_20 hg_r0 hr_17
      have hh_22 := hh_17.addI (jLs.ie hd_20n)
      clear hh_17
      have hd_18n := jOw.put hd_18 hr_17
      have hh_23 := hh_22.addI (jOw.ie (dC := dC) (dI := dI) (G0 := G0) (k := 1) (r := r0) (H0 := s.heap) (F := [(1, 0), (1, 1), (1, 2)]) (C := RJx4a65c) (T := TJx4a65c) (N := 3) rfl (by decide) hh_22.2.2.2.2.1 (hd_18n))
      clear hh_22
      clear hd_18 hd_18n
      clear hd_20 hd_20n hr_17
      refine lv_null hx hb dJx4a65c_fastRemove_b59b0_41 ?_
      have hd_25 := hh_23.iv 2 rfl
      have hd_26 := hh_23.iv 1 rfl
      have hh_28 := hh_23.sub (L1 := [(r0, 1, 2, .int z_15), (r0, 1, 0, .int z_10), (r0, 1, 1, .ref r1)]) [0, 1, 2] rfl (M1 := []) [] rfl (I1 := [([(1, 0), (1, 1), (1, 2)], jOw (dC, dI) G0 1 r0 s.heap)]) [0] rfl
      clear hh_23
      refine j7_qastNO hx hb hK7.1 hh_28 hB hB221 0 rfl (by decide) (by decide) rfl rfl rfl hg_r1 (x := z_15.toInt) (rfl) (by omega) (Or.inl rfl) hd_25 dJx4a65c_fastRemove_b59b0_42 (fun H_24 locs_24 fq_27 hv_24 ho_24 hq_24 hr_24 hh_24 => ?_)
      clear hh_28
      have hd_26n := jLs.arr hd_26 hg_r0 hg_r1 hr_24
      have hh_29 := hh_24.addI (jLs.ie hd_26n)
      clear hh_24
      have hh_30 := hh_29.addI (hq_24.ie hg_r1 (by decide) (by decide))
      clear hh_29
      clear hd_25 hd_26 hd_26n hr_24
      have hd_31 := jLs.full (wn := (wl.s1 (wl.1 - 1) (jRmv wl.2.1 (a2.toInt).toNat))) (hh_30.iv 1 rfl) hg_r0 ⟨_, _, hh_30.at 0 rfl, hh_30.at 2 rfl, ⟨by omega, (show _ ≤ (3 : Int) by omega)⟩, Or.inr ⟨_, _, hg_r1, by omega, by omega, hh_30.iv 0 rfl, by first | exact jRm.copy hl8_2 (by omega) (by omega) (zz_none) (by omega) (by omega) (by omega) ho_24 | exact jRm.last hl8_2 (by omega) (by omega) ho_24, by first | exact jWk.copy hlw_2 (by omega) (by omega) (zz_none) (by omega) (by omega) (by omega) ho_24 | exact jWk.last hlw_2 (by omega) (by omega) (by omega) ho_24, (fun q => absurd rfl q)⟩⟩ ⟨fun q => absurd rfl q, fun _ => rfl, fun _ => rfl⟩
      have hh_32 := hh_30.sub (L1 := [(r0, 1, 2, .int z_15), (r0, 1, 0, .int z_10), (r0, 1, 1, .ref r1)]) [0, 1, 2] rfl (M1 := []) [] rfl (I1 := [([(221, 0)], jQc dC dI (ca 9) r1 n1 fq_27), ([(1, 0), (1, 1), (1, 2)], jOw (dC, dI) G0 1 r0 s.heap)]) [0, 2] rfl
      clear hh_30
      have hh_33 := hh_32.addI (jLs.ie hd_31)
      clear hh_32
      rw [hQ]
      exact W.vret hx hb hr (fun t ht hW => ⟨⟨z_15, rfl, by first | omega | rfl | assumption | decide | exact Or.inl rfl | exact Or.inr rfl | (simp only; omega), ⟨⟨hh_33.rt (M1 := [(r0, 1, 2, .int z_15)]) [0] rfl ht, by rw [ht]; exact hh_33.iv 2 rfl⟩, by rw [ht]; exact hh_33.2.2.2.2.2.2.2.2.sub (L1 := [(jFl, jLs dC dI ca G0 3 none (wl.s1 (wl.1 - 1) (jRmv wl.2.1 (a2.toInt).toNat)))]) [0] rfl⟩⟩, by rw [ht]; try exact hh_33.1.1, fun q h9 hq => by rw [ht]; try exact hh_33.1.2.1 q h9 hq⟩) hh_33.1.2.2 dJx4a65c_fastRemove_b59b0_43
    · skip
      have c_16' : z_15.toInt > a2.toInt := jb_le_n (rfl) (rfl) c_16
      refine lv_aload_n hx hb dJx4a65c_fastRemove_b59b0_22 rfl (lv_at hl 2 rfl) ?_
      refine lv_iload_n hx hb dJx4a65c_fastRemove_b59b0_23 rfl (lv_at hl 3 rfl) ?_
      refine lv_iconst (v := 1) hx hb dJx4a65c_fastRemove_b59b0_24 (by decide) ?_
      refine lv_iadd hx hb dJx4a65c_fastRemove_b59b0_25 ?_
      refine lv_topi (fun z_34 ez_34 => ?_)
      have hz_34 : z_34.toInt = a2.toInt + 1 := by rw [ez_34]; exact jb_iadd2 (rfl) ((by decide)) (by omega)
      refine lv_aload_n hx hb dJx4a65c_fastRemove_b59b0_26 rfl (lv_at hl 2 rfl) ?_
      refine lv_iload_n hx hb dJx4a65c_fastRemove_b59b0_27 rfl (lv_at hl 3 rfl) ?_
      refine lv_iload_n hx hb dJx4a65c_fastRemove_b59b0_28 rfl (lv_at hl 0 rfl) ?_
      refine lv_iload_n hx hb dJx4a65c_fastRemove_b59b0_29 rfl (lv_at hl 3 rfl) ?_
      refine lv_isub hx hb dJx4a65c_fastRemove_b59b0_30 ?_
      refine lv_topi (fun z_35 ez_35 => ?_)
      have hz_35 : z_35.toInt = z_15.toInt - a2.toInt := by rw [ez_35]; exact jb_isub2 (rfl) (rfl) (by omega)
      have hd_37 := hh_14.iv 1 rfl
      have hd_38 := hh_14.iv 1 rfl
      have hd_39 := hh_14.iv 2 rfl
      have hh_41 := hh_14.sub (L1 := [(r0, 1, 0, .int z_10), (r0, 1, 1, .ref r1), (r0, 1, 2, .int lz)]) [0, 1, 2] rfl (M1 := []) [] rfl (I1 := [([(1, 0), (1, 1), (1, 2)], jOw (dC, dI) G0 1 r0 s.heap)]) [0] rfl
      clear hh_14
      refine j7_qcopy hx hb (by rw [hml]; exact hl.1.symm) hown (htw (.methodLink RJx4a65c 112 arraycopyName) (jWr_42 _ (List.mem_of_getElem? (i := 15) rfl))) (htw (.native arraycopyName) (jWr_16 _ (List.mem_of_getElem? (i := 19) rfl))) (htw (.static arraycopyName) (jWr_16 _ (List.mem_of_getElem? (i := 20) rfl))) (htw (.initialized "java/lang/System") (jWr_16 _ (List.mem_of_getElem? (i := 21) rfl))) hK hK7.1 hh_41 hB hB221 0 rfl (by decide) (by decide) rfl rfl rfl hg_r1 hg_r1 hd_38 hd_37 hB3 (T := TX1) (N := 17) rfl (by decide) hK7.2.2.1.1.1 (x := z_34.toInt) (y := a2.toInt) (z := z_35.toInt) rfl rfl rfl (by omega) (by rw [← hR]; exact Nat.le_of_ble_eq_true rfl) (by rw [← hR]; exact Nat.le_of_ble_eq_true rfl) dJx4a65c_fastRemove_b59b0_31 (fun H_36 locs_36 fq_40 hc_36 hq_36 hr_36 hh_36 => ?_)
      clear hh_41
      have hd_39n := jLs.arr hd_39 hg_r0 hg_r1 hr_36
      have hh_42 := hh_36.addI (jLs.ie hd_39n)
      clear hh_36
      have hh_43 := hh_42.addI (hq_36.ie hg_r1 (by decide) (by decide))
      clear hh_42
      refine lv_aload_n hx hb dJx4a65c_fastRemove_b59b0_34 rfl (lv_at hl 2 rfl) ?_
      refine lv_aload_n hx hb dJx4a65c_fastRemove_b59b0_35 rfl (lv_at hl 1 rfl) ?_
      refine lv_iload_n hx hb dJx4a65c_fastRemove_b59b0_36 rfl (lv_at hl 0 rfl) ?_
      refine lv_dup_x1 hx hb dJx4a65c_fastRemove_b59b0_37 rfl rfl ?_
      have hd_45 := hh_43.iv 2 rfl
      have hh_46 := hh_43.sub (L1 := [(r0, 1, 0, .int z_10), (r0, 1, 1, .ref r1), (r0, 1, 2, .int lz)]) [0, 1, 2] rfl (M1 := []) [] rfl (I1 := [([(221, 0)], jQc dC dI (ca 9) r1 n1 fq_40), (jFl, jLs dC dI ca G0 3 (some r0) wl)]) [0, 1] rfl
      clear hh_43
      have hd_47 := hh_46.iv 1 rfl
      have hh_48 := hh_46.sub (L1 := [(r0, 1, 0, .int z_10), (r0, 1, 1, .ref r1), (r0, 1, 2, .int lz)]) [0, 1, 2] rfl (M1 := []) [] rfl (I1 := [([(221, 0)], jQc dC dI (ca 9) r1 n1 fq_40)]) [0] rfl
      clear hh_46
      refine j7_putX hx hb hown hK hh_48 hB hAp hB1 (C := RJx4a65c) (T := TJx4a65c) (N := 3) rfl (by decide) hg_r0 (i := 2) (by decide) hly_1_2 rfl hlk_48 rfl (ty := .int) (v := .int z_15) (by decide +kernel) rfl rfl (⟨_, rfl, by omega, by omega⟩) rfl (L1 := [(r0, 1, 0, .int z_10), (r0, 1, 1, .ref r1)]) [0, 1] rfl rfl rfl dJx4a65c_fastRemove_b59b0_38 (fun H_44 locs_44 hr_44 hh_44 => ?_)
      clear hh_48
      have hd_47n := jLs.fld hd_47 hg_r0 hr_44
      have hh_49 := hh_44.addI (jLs.ie hd_47n)
      clear hh_44
      have hd_45n := jOw.put hd_45 hr_44
      have hh_50 := hh_49.addI (jOw.ie (dC := dC) (dI := dI) (G0 := G0) (k := 1) (r := r0) (H0 := s.heap) (F := [(1, 0), (1, 1), (1, 2)]) (C := RJx4a65c) (T := TJx4a65c) (N := 3) rfl (by decide) hh_49.2.2.2.2.1 (hd_45n))
      clear hh_49
      clear hd_45 hd_45n
      clear hd_47 hd_47n hr_44
      refine lv_null hx hb dJx4a65c_fastRemove_b59b0_41 ?_
      have hd_52 := hh_50.iv 2 rfl
      have hd_53 := hh_50.iv 1 rfl
      have hh_55 := hh_50.sub (L1 := [(r0, 1, 2, .int z_15), (r0, 1, 0, .int z_10), (r0, 1, 1, .ref r1)]) [0, 1, 2] rfl (M1 := []) [] rfl (I1 := [([(1, 0), (1, 1), (1, 2)], jOw (dC, dI) G0 1 r0 s.heap)]) [0] rfl
      clear hh_50
      refine j7_qastNO hx hb hK7.1 hh_55 hB hB221 0 rfl (by decide) (by decide) rfl rfl rfl hg_r1 (x := z_15.toInt) (rfl) (by omega) (Or.inl rfl) hd_52 dJx4a65c_fastRemove_b59b0_42 (fun H_51 locs_51 fq_54 hv_51 ho_51 hq_51 hr_51 hh_51 => ?_)
      clear hh_55
      have hd_53n := jLs.arr hd_53 hg_r0 hg_r1 hr_51
      have hh_56 := hh_51.addI (jLs.ie hd_53n)
      clear hh_51
      have hh_57 := hh_56.addI (hq_51.ie hg_r1 (by decide) (by decide))
      clear hh_56
      clear hd_52 hd_53 hd_53n hr_51
      have hd_58 := jLs.full (wn := (wl.s1 (wl.1 - 1) (jRmv wl.2.1 (a2.toInt).toNat))) (hh_57.iv 1 rfl) hg_r0 ⟨_, _, hh_57.at 0 rfl, hh_57.at 2 rfl, ⟨by omega, (show _ ≤ (3 : Int) by omega)⟩, Or.inr ⟨_, _, hg_r1, by omega, by omega, hh_57.iv 0 rfl, by first | exact jRm.copy hl8_2 (by omega) (by omega) hc_36 (by omega) (by omega) (by omega) ho_51 | exact jRm.last hl8_2 (by omega) (by omega) ho_51, by first | exact jWk.copy hlw_2 (by omega) (by omega) hc_36 (by omega) (by omega) (by omega) ho_51 | exact jWk.last hlw_2 (by omega) (by omega) (by omega) ho_51, (fun q => absurd rfl q)⟩⟩ ⟨fun q => absurd rfl q, fun _ => rfl, fun _ => rfl⟩
      have hh_59 := hh_57.sub (L1 := [(r0, 1, 2, .int z_15), (r0, 1, 0, .int z_10), (r0, 1, 1, .ref r1)]) [0, 1, 2] rfl (M1 := []) [] rfl (I1 := [([(221, 0)], jQc dC dI (ca 9) r1 n1 fq_54), ([(1, 0), (1, 1), (1, 2)], jOw (dC, dI) G0 1 r0 s.heap)]) [0, 2] rfl
      clear hh_57
      have hh_60 := hh_59.addI (jLs.ie hd_58)
      clear hh_59
      rw [hQ]
      exact W.vret hx hb hr (fun t ht hW => ⟨⟨z_15, rfl, by first | omega | rfl | assumption | decide | exact Or.inl rfl | exact Or.inr rfl | (simp only; omega), ⟨⟨hh_60.rt (M1 := [(r0, 1, 2, .int z_15)]) [0] rfl ht, by rw [ht]; exact hh_60.iv 2 rfl⟩, by rw [ht]; exact hh_60.2.2.2.2.2.2.2.2.sub (L1 := [(jFl, jLs dC dI ca G0 3 none (wl.s1 (wl.1 - 1) (jRmv wl.2.1 (a2.toInt).toNat)))]) [0] rfl⟩⟩, by rw [ht]; try exact hh_60.1.1, fun q h9 hq => by rw [ht]; try exact hh_60.1.2.1 q h9 hq⟩) hh_60.1.2.2 dJx4a65c_fastRemove_b59b0_43
set_option maxHeartbeats 4000000 in
set_option maxRecDepth 20000 in
theorem uJx4a65c_remove_915e3L1 (l : Launch) (dC : Nat → ClassId) (dI : Nat → Nat → Nat) (ca : Nat → ClassId) (base : Nat) (B : jF) (hB : jBok B) (hAp : jAp (dC, dI)) (hB1 : ∀ n G a H, B 1 n G a H ↔ jOb (dC, dI) 1 3 (F1 n G) a H) (hB3 : ∀ n G a H, B 3 n G a H ↔ jOb (dC, dI) 3 17 (F3 n G) a H) (hB221 : ∀ n G a H, B 221 n G a H ↔ jAq (dC, dI) (ca 9) (jQn 3 0) n G a H) (G0 : jT) (H0 : Heap) (r0 : Nat) (a1 : Int32) (lz : Int32) (wl : jWl9) : Met l yJx4a65c_remove_915e3 (jw yJx4a65c_remove_915e3 cJx4a65c_remove_915e3 4 (some (.object "java/lang/Object"))) ({ frames := 2, cells := 0, slots := 0, locals := 84 }) (va_Pc [.ref r0, .int a1] (fun U => U.heap = H0 ∧ jX B base G0 [] H0 ∧ jG dC dI ca base U ∧ jK7 dC dI ca base U ∧ G0 r0 = some (1, 1) ∧ jP (dC, dI) G0 H0 [(r0, 1, 2, .int lz)] ∧ jIs (dC, dI) G0 H0 [(jFl, jLs dC dI ca G0 3 none wl)] ∧ 0 ≤ a1.toInt ∧ a1.toInt < lz.toInt)) (jQx (S := Int32) (fun v u => jRf G0 3 0 v ∧ u.toInt = lz.toInt - 1) (fun u t => ((jRt (dC, dI) B base G0 EJx4a65c_remove_915e3L1 H0 [(r0, 1, 2, .int u)] t.heap) ∧ jOw (dC, dI) G0 1 r0 H0 t.heap) ∧ jIs (dC, dI) G0 t.heap [(jFl, jLs dC dI ca G0 3 none (wl.s1 (wl.1 - 1) (jRmv wl.2.1 (a1.toInt).toNat)))]) (jA base)) 0 0 (jA base) := by
  refine Met.ofW (cc := cJx4a65c_remove_915e3) (maxL := 4) (ret := (some (.object "java/lang/Object"))) (by decide) rfl ?_
  intro p e s m args below meth c s₁ Bd hml hv
  obtain ⟨rfl, hH0, hX, hG, hK7, hg_r0, hP0, hI0, hp0, hp1⟩ := hv
  have hK := hG.1
  have hx := Bd.exec
  have hb := Bd.bytes
  have hr := Bd.returns
  have hts := atoms_spec (ws := (jw yJx4a65c_remove_915e3 cJx4a65c_remove_915e3 4 (some (.object "java/lang/Object")))) Bd.pre
  have htw : ∀ w ∈ jWl, w.before _ s = true := fun w h => hts w (List.mem_cons_of_mem _ h)
  have hown : s.vm.findClass RJx4a65c = some m.cls := findClass_of_methodNamed Bd.named
  have hlocks := Bd.notSynchronized
  obtain ⟨Q, hQ⟩ : ∃ Q, Q = MQ below (jQx (S := Int32) (fun v u => jRf G0 3 0 v ∧ u.toInt = lz.toInt - 1) (fun u t => ((jRt (dC, dI) B base G0 EJx4a65c_remove_915e3L1 H0 [(r0, 1, 2, .int u)] t.heap) ∧ jOw (dC, dI) G0 1 r0 H0 t.heap) ∧ jIs (dC, dI) G0 t.heap [(jFl, jLs dC dI ca G0 3 none (wl.s1 (wl.1 - 1) (jRmv wl.2.1 (a1.toInt).toNat)))]) (jA base)) ([.ref r0, .int a1] : List Value).toArray s 0 0 (jA base) := ⟨_, rfl⟩
  rw [← hQ]
  have hl := lv_entry ([.ref r0, .int a1]) (n := 4) (Nat.le_of_ble_eq_true rfl)
  rw [lg_entry_eq]
  generalize (lg_sl ([.ref r0, .int a1]) ++ List.replicate (4 - (lg_sl ([.ref r0, .int a1])).length) Slot.unset).toArray = ls at hl ⊢
  have hl : lv_has ls 4 [(0, .ref r0), (1, .int a1)] := hl
  generalize hR : (headSpec (jw yJx4a65c_remove_915e3 cJx4a65c_remove_915e3 4 (some (.object "java/lang/Object"))) ({ frames := 2, cells := 0, slots := 0, locals := 84 })).room = R
  subst hH0
  have hh : jSt (dC, dI) B base G0 G0 EJx4a65c_remove_915e3L1 s.heap 0 0 [(r0, 1, 2, .int lz)] [] [(jFl, jLs dC dI ca G0 3 none wl)] s.heap [] := jSt.start hX hP0 jMc.nil hI0
  clear hX hP0
  have hk0 : (0 : Int32).toInt = 0 := by decide
  have hk1 : (1 : Int32).toInt = 1 := by decide
  have hly_1_1 := htw (u_lay RJx4a65c TJx4a65c 1) (jWc_wsJx4a65c0 _ (u_in_lay (by decide)))
  have hly_1_2 := htw (u_lay RJx4a65c TJx4a65c 2) (jWc_wsJx4a65c0 _ (u_in_lay (by decide)))
  have hlk_48 := (htw (.fieldLink RJx4a65c 48 "java/util/ArrayList" "size" "I") (jWr_28 _ (List.mem_of_getElem? (i := 2) rfl)))
  have hlk_9 := (htw (.fieldLink RJx4a65c 9 "java/util/ArrayList" "elementData" "[Ljava/lang/Object;") (jWr_9 _ (List.mem_of_getElem? (i := 15) rfl)))
  have hrg_a1 := jb_rng a1
  have hh_1 := hh.addI (jOw.ie (dC := dC) (dI := dI) (G0 := G0) (k := 1) (r := r0) (H0 := s.heap) (F := [(1, 0), (1, 1), (1, 2)]) (C := RJx4a65c) (T := TJx4a65c) (N := 3) rfl (by decide) hh.2.2.2.2.1 (jOw.rf))
  clear hh
  obtain ⟨lz_2, lx_2, hl1_2, hl2_2, hl3_2, hl4_2⟩ := jLs.at (hh_1.iv 1 rfl) hg_r0
  obtain rfl : lz = lz_2 := Value.int.inj (jf.uniq (hh_1.at 0 rfl) hl1_2)
  have hl3_2 : 0 ≤ lz.toInt ∧ lz.toInt ≤ 3 := hl3_2
  rcases hl4_2 with ⟨rfl, hl5_2, hl0_2, hlE_2⟩ | ⟨lm_2, lf_2, hg_lx_2, hlm_2, hl6_2, hl7_2, hl8_2, hlw_2, hlY_2⟩
  · skip
    exact (by omega : False).elim
  · skip
    have hh_3 := hh_1.more (P1 := [(r0, 1, 1, .ref lx_2)]) (jP.cons hg_r0 hl2_2 jP.nil)
    clear hh_1
    have hh_4 := hh_3.addI (jQc.ie hl7_2 hg_lx_2 (by decide) (by decide))
    clear hh_3
    refine lv_iload_n hx hb dJx4a65c_remove_915e3_0 rfl (lv_at hl 1 rfl) ?_
    refine lv_aload_n hx hb dJx4a65c_remove_915e3_1 rfl (lv_at hl 0 rfl) ?_
    refine j7_read hx hb hown hK (C := RJx4a65c) (T := TJx4a65c) (N := 3) rfl hly_1_2 hlk_48 (hh_4.at 1 rfl) dJx4a65c_remove_915e3_2 ?_
    refine va_calli (A0 := jA base) (H0 := s.heap) (va_runS (As := [.int a1, .int lz]) (rest := []) ⟨hx, hb, hml, hown, hts⟩ (uJ15_checkIndex_7cf53 l dC dI ca base B hB hAp G0 s.heap a1 lz) (va_cwS 2 hts (jgS (jWr_28 _ (List.mem_of_getElem? (i := 7) rfl)) (jWr_28 _ (List.mem_of_getElem? (i := 8) rfl)) (jWr_28 _ (List.mem_of_getElem? (i := 9) rfl)) (jWr_28 _ (List.mem_of_getElem? (i := 10) rfl))) rfl rfl rfl (by decide +kernel) ⟨by rw [← hR]; exact Nat.le_of_ble_eq_true rfl, by rw [← hR]; exact Nat.le_of_ble_eq_true rfl⟩) ⟨fun a U g mk q => by obtain ⟨q0, q1, q2, qK, q10, q11⟩ := q; exact ⟨q0, q1, q2, jG.calling g mk a qK, q10, q11⟩, fun U hU hW => ⟨rfl, hU, hh_4.2.1, hG.step hW hU hh_4.1, jP.nil, by first | omega | (refine ⟨?_, ?_⟩ <;> (first | omega | rfl | assumption | decide | exact Or.inl rfl | exact Or.inr rfl | (simp only; omega)))⟩⟩ rfl rfl hl.1 rfl (lv_room (Nat.le_of_ble_eq_true rfl)) dJx4a65c_remove_915e3_5 ⟨Nat.zero_le _, Nat.zero_le _⟩) hh_4.1 (fun q _ h => h) (fun q h => h) (fun r_6 u_5 t_5 H_5 locs_5 ht_5 hvm_5 hr_6 hb_5 hz_5 hk_5 hS_5 => ?_)
    rw [ht_5] at hb_5
    obtain ⟨hb_51, hb_52, hb_53, hb_54, hb_55⟩ := hb_5
    have hh_5 : jSt (dC, dI) B base G0 G0 EJx4a65c_remove_915e3L1 s.heap 0 0 [(r0, 1, 1, .ref lx_2), (r0, 1, 2, .int lz)] [] [([(221, 0)], jQc dC dI (ca 9) lx_2 lm_2 lf_2), ([(1, 0), (1, 1), (1, 2)], jOw (dC, dI) G0 1 r0 s.heap), (jFl, jLs dC dI ca G0 3 none wl)] H_5 locs_5 := ((hh_4.call hb_51 hb_52 hb_53 hb_54 hS_5 rfl (L1 := [(r0, 1, 1, .ref lx_2), (r0, 1, 2, .int lz)]) [0, 1] rfl rfl (M1 := []) [] rfl rfl (I1 := [([(221, 0)], jQc dC dI (ca 9) lx_2 lm_2 lf_2), ([(1, 0), (1, 1), (1, 2)], jOw (dC, dI) G0 1 r0 s.heap), (jFl, jLs dC dI ca G0 3 none wl)]) [0, 1, 2] rfl rfl).more hb_55)
    clear hh_4 ht_5 hvm_5 hz_5 hk_5 hS_5 hb_51 hb_52 hb_53 hb_54 hb_55
    refine lv_pop hx hb dJx4a65c_remove_915e3_8 rfl ?_
    refine lv_aload_n hx hb dJx4a65c_remove_915e3_9 rfl (lv_at hl 0 rfl) ?_
    refine j7_read hx hb hown hK (C := RJx4a65c) (T := TJx4a65c) (N := 3) rfl hly_1_1 hlk_9 (hh_5.at 0 rfl) dJx4a65c_remove_915e3_10 ?_
    refine lv_astore_n (lv' := [(2, .ref lx_2), (0, .ref r0), (1, .int a1)]) hx hb dJx4a65c_remove_915e3_13 rfl hl (by decide) rfl (fun ls hl => ?_)
    refine lv_aload_n hx hb dJx4a65c_remove_915e3_14 rfl (lv_at hl 0 rfl) ?_
    refine lv_iload_n hx hb dJx4a65c_remove_915e3_15 rfl (lv_at hl 2 rfl) ?_
    refine j7_qaldI hx hb hK7.1 hh_5 hB221 0 rfl (by decide) hg_lx_2 (x := a1.toInt) (rfl) (by omega) (hh_5.iv 0 rfl) dJx4a65c_remove_915e3_16 (fun o_7 ho_7 heo_7 => ?_)
    rcases ho_7 with rfl | ⟨el_8, rfl, hg_el_8⟩
    · simp only [va_rf]
      exact absurd heo_7.symm (hl8_2 _ (by omega))
    · simp only [va_rf]
      refine lv_astore_n (lv' := [(3, .ref el_8), (2, .ref lx_2), (0, .ref r0), (1, .int a1)]) hx hb dJx4a65c_remove_915e3_17 rfl hl (by decide) rfl (fun ls hl => ?_)
      refine lv_aload_n hx hb dJx4a65c_remove_915e3_18 rfl (lv_at hl 2 rfl) ?_
      refine lv_aload_n hx hb dJx4a65c_remove_915e3_19 rfl (lv_at hl 1 rfl) ?_
      refine lv_iload_n hx hb dJx4a65c_remove_915e3_20 rfl (lv_at hl 3 rfl) ?_
      refine va_callv (A0 := jA base) (H0 := s.heap) (va_runV (As := [.ref lx_2, .int a1]) (rest := []) ⟨hx, hb, hml, hown, hts⟩ (uJx4a65c_fastRemove_b59b0L1 l dC dI ca base B hB hAp hB1 hB3 hB221 G0 H_5 r0 lx_2 a1 lm_2 lz wl) (cwV 2 hts (jgV (jWr_42 _ (List.mem_of_getElem? (i := 11) rfl)) (jWr_42 _ (List.mem_of_getElem? (i := 12) rfl)) (jWr_42 _ (List.mem_of_getElem? (i := 13) rfl)) (jWr_2 _ (List.mem_of_getElem? (i := 13) rfl)) (jWr_42 _ (List.mem_of_getElem? (i := 14) rfl))) rfl rfl rfl (by decide +kernel) ⟨by rw [← hR]; exact Nat.le_of_ble_eq_true rfl, by rw [← hR]; exact Nat.le_of_ble_eq_true rfl⟩) ⟨fun a U g mk q => by obtain ⟨q0, q1, q2, qK, q10, q11, q12, q13, q14, q15⟩ := q; exact ⟨q0, q1, q2, jG.calling g mk a qK, (jK7.calling g mk a q10), q11, q12, q13, q14, q15⟩, hh_5.recv (C := RJx4a65c) (T := TJx4a65c) (N := 3) hB1 rfl (by decide) hg_r0 hK, fun U hU hW => ⟨rfl, hU, hh_5.2.1, hG.step hW hU hh_5.1, (hK7.step hW hU hh_5.1), hg_r0, hg_lx_2, (hh_5.2.2.1.sub (L1 := [(r0, 1, 1, .ref lx_2), (r0, 1, 2, .int lz)]) [0, 1] rfl), (hh_5.2.2.2.2.2.2.2.2.sub (L1 := [(jFl, jLs dC dI ca G0 3 none wl)]) [2] rfl), by first | omega | (refine ⟨?_, ?_⟩ <;> (first | omega | rfl | assumption | decide | exact Or.inl rfl | exact Or.inr rfl | (simp only; omega)))⟩⟩ rfl rfl hl.1 rfl (lv_room (Nat.le_of_ble_eq_true rfl)) dJx4a65c_remove_915e3_21 ⟨Nat.zero_le _, Nat.zero_le _⟩) hh_5.1 (fun q _ h => h) (fun q h => h) (fun u_9 t_9 H_9 locs_9 ht_9 hvm_9 hr_10 hb_9 hz_9 hk_9 hS_9 => ?_)
      obtain ⟨qz_9, rfl⟩ : ∃ z, z = u_9 := ⟨_, rfl⟩
      rw [ht_9] at hb_9
      obtain ⟨hb_9, hbE_9⟩ := hb_9
      obtain ⟨hb_9, hbO_9⟩ := hb_9
      obtain ⟨hb_91, hb_92, hb_93, hb_94, hb_95⟩ := hb_9
      have hh_9 : jSt (dC, dI) B base G0 G0 EJx4a65c_remove_915e3L1 s.heap 0 0 [(r0, 1, 2, .int qz_9), (r0, 1, 1, .ref lx_2)] [] [(jFl, jLs dC dI ca G0 3 none (wl.s1 (wl.1 - 1) (jRmv wl.2.1 (a1.toInt).toNat)))] H_9 locs_9 := (((hh_5.call hb_91 hb_92 hb_93 hb_94 hS_9 rfl (L1 := [(r0, 1, 1, .ref lx_2)]) [0] rfl rfl (M1 := []) [] rfl rfl (I1 := []) [] rfl rfl).more hb_95)).addIs hbE_9
      have hd_11 := jOw.tr (hh_5.iv 1 rfl) hh_5.2.2.2.2.1 hbO_9
      have hh_12 := hh_9.addI (jOw.ie (dC := dC) (dI := dI) (G0 := G0) (k := 1) (r := r0) (H0 := s.heap) (F := [(1, 0), (1, 1), (1, 2)]) (C := RJx4a65c) (T := TJx4a65c) (N := 3) rfl (by decide) hh_9.2.2.2.2.1 (hd_11))
      clear hh_9
      clear hh_5 ht_9 hvm_9 hz_9 hk_9 hS_9 hb_91 hb_92 hb_93 hb_94 hb_95
      clear  hbE_9
      refine lv_aload_n hx hb dJx4a65c_remove_915e3_24 rfl (lv_at hl 0 rfl) ?_
      rw [hQ]
      exact W.aret (v := .ref el_8) hx hb hr (Or.inl ⟨_, rfl⟩) (Or.inr ⟨_, rfl⟩) (fun t ht hW => ⟨⟨.ref el_8, qz_9, rfl, ⟨⟨_, rfl, hg_el_8⟩, by first | omega | rfl | assumption | decide | exact Or.inl rfl | exact Or.inr rfl | (simp only; omega)⟩, ⟨⟨hh_12.rt (M1 := [(r0, 1, 2, .int qz_9)]) [0] rfl ht, by rw [ht]; exact hh_12.iv 0 rfl⟩, by rw [ht]; exact hh_12.2.2.2.2.2.2.2.2.sub (L1 := [(jFl, jLs dC dI ca G0 3 none (wl.s1 (wl.1 - 1) (jRmv wl.2.1 (a1.toInt).toNat)))]) [1] rfl⟩⟩, by rw [ht]; try exact hh_12.1.1, fun q h9 hq => by rw [ht]; try exact hh_12.1.2.1 q h9 hq⟩) hh_12.1.2.2 dJx4a65c_remove_915e3_25
end
section
theorem dX11_numberOf_0 : decode cX11_numberOf 0 = .ok (.iconst 0, 1) := by decide +kernel
theorem dX11_numberOf_1 : decode cX11_numberOf 1 = .ok (.istore_n 2, 1) := by decide +kernel
theorem dX11_numberOf_2 : decode cX11_numberOf 2 = .ok (.iload_n 2, 1) := by decide +kernel
theorem dX11_numberOf_3 : decode cX11_numberOf 3 = .ok (.aload_n 0, 1) := by decide +kernel
theorem dX11_numberOf_4 : decode cX11_numberOf 4 = .ok (.getfield 61, 3) := by decide +kernel
theorem dX11_numberOf_7 : decode cX11_numberOf 7 = .ok (.invokeinterface 142 1, 5) := by decide +kernel
theorem dX11_numberOf_12 : decode cX11_numberOf 12 = .ok (.if_icmp .ge 25, 3) := by decide +kernel
theorem dX11_numberOf_15 : decode cX11_numberOf 15 = .ok (.aload_n 0, 1) := by decide +kernel
theorem dX11_numberOf_16 : decode cX11_numberOf 16 = .ok (.getfield 61, 3) := by decide +kernel
theorem dX11_numberOf_19 : decode cX11_numberOf 19 = .ok (.iload_n 2, 1) := by decide +kernel
theorem dX11_numberOf_20 : decode cX11_numberOf 20 = .ok (.invokeinterface 249 2, 5) := by decide +kernel
theorem dX11_numberOf_25 : decode cX11_numberOf 25 = .ok (.aload_n 1, 1) := by decide +kernel
theorem dX11_numberOf_26 : decode cX11_numberOf 26 = .ok (.if_acmp .ne 5, 3) := by decide +kernel
theorem dX11_numberOf_29 : decode cX11_numberOf 29 = .ok (.iload_n 2, 1) := by decide +kernel
theorem dX11_numberOf_30 : decode cX11_numberOf 30 = .ok (.ireturn, 1) := by decide +kernel
theorem dX11_numberOf_31 : decode cX11_numberOf 31 = .ok (.iinc 2 1, 3) := by decide +kernel
theorem dX11_numberOf_34 : decode cX11_numberOf 34 = .ok (.goto (-32), 3) := by decide +kernel
theorem dX11_numberOf_37 : decode cX11_numberOf 37 = .ok (.iconst (-1), 1) := by decide +kernel
theorem dX11_numberOf_38 : decode cX11_numberOf 38 = .ok (.ireturn, 1) := by decide +kernel
def EX11_numberOfZ : List (Nat × Nat) := []
set_option maxHeartbeats 4000000 in
set_option maxRecDepth 20000 in
theorem uX11_numberOfZ (l : Launch) (dC : Nat → ClassId) (dI : Nat → Nat → Nat) (ca : Nat → ClassId) (base : Nat) (B : jF) (hB : jBok B) (hAp : jAp (dC, dI)) (hB1 : ∀ n G a H, B 1 n G a H ↔ jOb (dC, dI) 1 3 (F1 n G) a H) (hB3 : ∀ n G a H, B 3 n G a H ↔ jOb (dC, dI) 3 17 (F3 n G) a H) (hB13 : ∀ n G a H, B 13 n G a H ↔ jOb (dC, dI) 13 19 (F13 n G) a H) (hB221 : ∀ n G a H, B 221 n G a H ↔ jAq (dC, dI) (ca 9) (jQn 3 0) n G a H) (G0 : jT) (H0 : Heap) (r0 : Nat) (wl : jWl9) : Met l yX11_numberOf (jw yX11_numberOf cX11_numberOf 3 (some .int)) ({ frames := 3, cells := 0, slots := 0, locals := 64 }) (va_Pc [.ref r0, .null] (fun U => U.heap = H0 ∧ jX B base G0 [] H0 ∧ jG dC dI ca base U ∧ jK7 dC dI ca base U ∧ G0 r0 = some (13, 0) ∧ jP (dC, dI) G0 H0 [] ∧ jIs (dC, dI) G0 H0 [(jFl, jLs dC dI ca G0 3 none wl)] ∧ True)) (va_Qi (S := Unit) (fun r u => (True)) (fun u t => (jRt (dC, dI) B base G0 EX11_numberOfZ H0 [] t.heap) ∧ jIs (dC, dI) G0 t.heap [(jFl, jLs dC dI ca G0 3 none wl)]) (jA base)) 0 0 (jA base) := by
  refine Met.ofW (cc := cX11_numberOf) (maxL := 3) (ret := (some .int)) (by decide) rfl ?_
  intro p e s m args below meth c s₁ Bd hml hv
  obtain ⟨rfl, hH0, hX, hG, hK7, hg_r0, hP0, hI0, hp0⟩ := hv
  have hK := hG.1
  have hx := Bd.exec
  have hb := Bd.bytes
  have hr := Bd.returns
  have hts := atoms_spec (ws := (jw yX11_numberOf cX11_numberOf 3 (some .int))) Bd.pre
  have htw : ∀ w ∈ jWl, w.before _ s = true := fun w h => hts w (List.mem_cons_of_mem _ h)
  have hown : s.vm.findClass RX11 = some m.cls := findClass_of_methodNamed Bd.named
  have hlocks := Bd.notSynchronized
  obtain ⟨Q, hQ⟩ : ∃ Q, Q = MQ below (va_Qi (S := Unit) (fun r u => (True)) (fun u t => (jRt (dC, dI) B base G0 EX11_numberOfZ H0 [] t.heap) ∧ jIs (dC, dI) G0 t.heap [(jFl, jLs dC dI ca G0 3 none wl)]) (jA base)) ([.ref r0, .null] : List Value).toArray s 0 0 (jA base) := ⟨_, rfl⟩
  rw [← hQ]
  have hl := lv_entry ([.ref r0, .null]) (n := 3) (Nat.le_of_ble_eq_true rfl)
  rw [lg_entry_eq]
  generalize (lg_sl ([.ref r0, .null]) ++ List.replicate (3 - (lg_sl ([.ref r0, .null])).length) Slot.unset).toArray = ls at hl ⊢
  have hl : lv_has ls 3 [(0, .ref r0), (1, .null)] := hl
  generalize hR : (headSpec (jw yX11_numberOf cX11_numberOf 3 (some .int)) ({ frames := 3, cells := 0, slots := 0, locals := 64 })).room = R
  subst hH0
  have hh : jSt (dC, dI) B base G0 G0 EX11_numberOfZ s.heap 0 0 [] [] [(jFl, jLs dC dI ca G0 3 none wl)] s.heap [] := jSt.start hX hP0 jMc.nil hI0
  clear hX hP0
  have hkm1 : ((-1) : Int32).toInt = (-1) := by decide
  have hk0 : (0 : Int32).toInt = 0 := by decide
  have hk1 : (1 : Int32).toInt = 1 := by decide
  have hly_13_7 := htw (u_lay RX11 TX11 7) (jWc_wsX110 _ (u_in_lay (by decide)))
  have hlk_61 := (htw (.fieldLink RX11 61 "ProofServer" "open" "Ljava/util/List;") (jWr_2 _ (List.mem_of_getElem? (i := 14) rfl)))
  refine lv_iconst (v := 0) hx hb dX11_numberOf_0 (by decide) ?_
  refine lv_istore_n (lv' := [(2, .int 0), (0, .ref r0), (1, .null)]) hx hb dX11_numberOf_1 rfl hl (by decide) rfl (fun ls hl => ?_)
  have L2 : ∀ (N : Nat) (v2_1 : Int32) (H_1 : Heap) (locs_1 : List Loc), jSt (dC, dI) B base G0 G0 EX11_numberOfZ s.heap 0 0 [] [] [(jFl, jLs dC dI ca G0 3 none wl)] H_1 locs_1 → (0 ≤ v2_1.toInt ∧ v2_1.toInt ≤ 40) → (41 - v2_1.toInt : Int) < N → ∀ ls : Array Slot, lv_has ls 3 [(0, .ref r0), (1, .null), (2, .int v2_1)] → W p l e R s m ([.ref r0, .null] : List Value).toArray below meth c H_1 locs_1 0 0 Q (F0 m 2 ls []) := by
    intro N
    induction N with
    | zero => intro v2_1 H_1 locs_1 hh_1  hi_1 hm; exact absurd hm (by omega)
    | succ N L2 =>
      intro v2_1 H_1 locs_1 hh_1  hi_1 hm_1 ls hl
      obtain ⟨hi_1_0, hi_1_1⟩ := hi_1
      refine lv_iload_n hx hb dX11_numberOf_2 rfl (lv_at hl 2 rfl) ?_
      refine lv_aload_n hx hb dX11_numberOf_3 rfl (lv_at hl 0 rfl) ?_
      obtain ⟨v_2, hv_2, hh_3⟩ := hh_1.pin (C := RX11) (T := TX11) (N := 19) hB13 rfl (by decide) hg_r0 (i := 7) (by decide) rfl
      clear hh_1
      obtain ⟨open_4, rfl, hg_open_4⟩ := hv_2
      refine j7_read hx hb hown hK (C := RX11) (T := TX11) (N := 19) rfl hly_13_7 hlk_61 (hh_3.at 0 rfl) dX11_numberOf_4 ?_
      obtain ⟨v_7, hv_7, hh_8⟩ := hh_3.pin (C := RJx4a65c) (T := TJx4a65c) (N := 3) hB1 rfl (by decide) hg_open_4 (i := 2) (by decide) rfl
      obtain ⟨size_9, rfl, hlosize_9, hhisize_9⟩ := hv_7
      refine va_callFi (A0 := jA base) (H0 := s.heap) (va_runF (hK.1 1 _ rfl).2 (As := []) (rest := [.int v2_1]) ⟨hx, hb, hml, hown, hts⟩ (uJx4a65c_size_8abf5 l dC dI ca base B hB hAp hB1 G0 H_1 open_4 1 size_9) (va_cwF 0 hts (jgF (jWr_27 _ (List.mem_of_getElem? (i := 22) rfl)) (jWr_27 _ (List.mem_of_getElem? (i := 23) rfl)) (jWr_28 _ (List.mem_of_getElem? (i := 0) rfl)) (jWr_2 _ (List.mem_of_getElem? (i := 13) rfl)) (jWr_28 _ (List.mem_of_getElem? (i := 1) rfl))) rfl rfl rfl hK7.2.2.2.2.2.1.1 ⟨by decide, by decide, by decide +kernel⟩ ⟨by rw [← hR]; exact Nat.le_of_ble_eq_true rfl, by rw [← hR]; exact Nat.le_of_ble_eq_true rfl⟩) ⟨fun a U g mk q => by obtain ⟨q0, q1, q2, qK, q10, q11, q12⟩ := q; exact ⟨q0, q1, q2, jG.calling g mk a qK, q10, q11, q12⟩, hh_8.recv (C := RJx4a65c) (T := TJx4a65c) (N := 3) hB1 rfl (by decide) hg_open_4 hK, fun U hU hW => ⟨rfl, hU, hh_8.2.1, hG.step hW hU hh_8.1, hg_open_4, (hh_8.2.2.1.sub (L1 := [(open_4, 1, 2, .int size_9)]) [0] rfl), trivial⟩⟩ rfl rfl hl.1 rfl (lv_room (Nat.le_of_ble_eq_true rfl)) dX11_numberOf_7 ⟨Nat.zero_le _, Nat.zero_le _⟩) hh_8.1 (fun q _ h => h) (fun q h => h) (fun r_6 u_5 t_5 H_5 locs_5 ht_5 hvm_5 hr_6 hb_5 hz_5 hk_5 hS_5 => ?_)
      rw [ht_5] at hb_5
      obtain ⟨hb_51, hb_52, hb_53, hb_54, hb_55⟩ := hb_5
      have hh_5 : jSt (dC, dI) B base G0 G0 EX11_numberOfZ s.heap 0 0 [(open_4, 1, 2, .int size_9), (r0, 13, 7, .ref open_4)] [] [(jFl, jLs dC dI ca G0 3 none wl)] H_5 locs_5 := ((hh_8.call hb_51 hb_52 hb_53 hb_54 hS_5 rfl (L1 := [(open_4, 1, 2, .int size_9), (r0, 13, 7, .ref open_4)]) [0, 1] rfl rfl (M1 := []) [] rfl rfl (I1 := [(jFl, jLs dC dI ca G0 3 none wl)]) [0] rfl rfl).more hb_55)
      clear hh_8 ht_5 hvm_5 hz_5 hk_5 hS_5 hb_51 hb_52 hb_53 hb_54 hb_55
      refine lv_icmp_ge (tgt := 37) hx hb dX11_numberOf_12 (by decide) (fun c_10 => ?_) (fun c_10 => ?_)
      · skip
        have c_10' : v2_1.toInt ≥ r_6.toInt := jb_ge (rfl) (rfl) c_10
        refine lv_iconst (v := (-1)) hx hb dX11_numberOf_37 (by decide) ?_
        rw [hQ]
        exact W.iret (v := (-1)) hx hb hr (fun t ht hW => ⟨⟨(-1), (), rfl, trivial, ⟨hh_5.rt (M1 := []) [] rfl ht, by rw [ht]; exact hh_5.2.2.2.2.2.2.2.2.sub (L1 := [(jFl, jLs dC dI ca G0 3 none wl)]) [0] rfl⟩⟩, by rw [ht]; try exact hh_5.1.1, fun q h9 hq => by rw [ht]; try exact hh_5.1.2.1 q h9 hq⟩) hh_5.1.2.2 dX11_numberOf_38
      · skip
        have c_10' : v2_1.toInt < r_6.toInt := jb_ge_n (rfl) (rfl) c_10
        refine lv_aload_n hx hb dX11_numberOf_15 rfl (lv_at hl 0 rfl) ?_
        refine j7_read hx hb hown hK (C := RX11) (T := TX11) (N := 19) rfl hly_13_7 hlk_61 (hh_5.at 1 rfl) dX11_numberOf_16 ?_
        refine lv_iload_n hx hb dX11_numberOf_19 rfl (lv_at hl 2 rfl) ?_
        refine j_callFx (A0 := jA base) (H0 := s.heap) (va_runF (hK.1 1 _ rfl).2 (As := [.int v2_1]) (rest := []) ⟨hx, hb, hml, hown, hts⟩ (uJx4a65c_get_915e3L1 l dC dI ca base B hB hAp hB1 hB3 hB221 G0 H_5 open_4 v2_1 size_9 wl) (va_cwF 1 hts (jgF (jWr_28 _ (List.mem_of_getElem? (i := 3) rfl)) (jWr_28 _ (List.mem_of_getElem? (i := 4) rfl)) (jWr_28 _ (List.mem_of_getElem? (i := 5) rfl)) (jWr_2 _ (List.mem_of_getElem? (i := 13) rfl)) (jWr_28 _ (List.mem_of_getElem? (i := 6) rfl))) rfl rfl rfl hK7.2.2.2.2.2.1.2.1 ⟨by decide, by decide, by decide +kernel⟩ ⟨by rw [← hR]; exact Nat.le_of_ble_eq_true rfl, by rw [← hR]; exact Nat.le_of_ble_eq_true rfl⟩) ⟨fun a U g mk q => by obtain ⟨q0, q1, q2, qK, q10, q11, q12, q13, q14⟩ := q; exact ⟨q0, q1, q2, jG.calling g mk a qK, (jK7.calling g mk a q10), q11, q12, q13, q14⟩, hh_5.recv (C := RJx4a65c) (T := TJx4a65c) (N := 3) hB1 rfl (by decide) hg_open_4 hK, fun U hU hW => ⟨rfl, hU, hh_5.2.1, hG.step hW hU hh_5.1, (hK7.step hW hU hh_5.1), hg_open_4, (hh_5.2.2.1.sub (L1 := [(open_4, 1, 2, .int size_9)]) [0] rfl), (hh_5.2.2.2.2.2.2.2.2.sub (L1 := [(jFl, jLs dC dI ca G0 3 none wl)]) [0] rfl), by first | omega | (refine ⟨?_, ?_⟩ <;> (first | omega | rfl | assumption | decide | exact Or.inl rfl | exact Or.inr rfl | (simp only; omega)))⟩⟩ rfl rfl hl.1 rfl (lv_room (Nat.le_of_ble_eq_true rfl)) dX11_numberOf_20 ⟨Nat.zero_le _, Nat.zero_le _⟩) hh_5.1 (fun q _ h => h) (fun q h => h) (fun r_12 u_11 t_11 H_11 locs_11 ht_11 hvm_11 hr_12 hb_11 hz_11 hk_11 hS_11 => ?_)
        rw [ht_11] at hb_11
        obtain ⟨hb_11, hbE_11⟩ := hb_11
        obtain ⟨hb_111, hb_112, hb_113, hb_114, hb_115⟩ := hb_11
        have hh_11 : jSt (dC, dI) B base G0 G0 EX11_numberOfZ s.heap 0 0 [(open_4, 1, 2, .int size_9), (r0, 13, 7, .ref open_4)] [] [(jFl, jLs dC dI ca G0 3 none wl)] H_11 locs_11 := (((hh_5.call hb_111 hb_112 hb_113 hb_114 hS_11 rfl (L1 := [(open_4, 1, 2, .int size_9), (r0, 13, 7, .ref open_4)]) [0, 1] rfl rfl (M1 := []) [] rfl rfl (I1 := []) [] rfl rfl).more hb_115)).addIs hbE_11
        clear hh_5 ht_11 hvm_11 hz_11 hk_11 hS_11 hb_111 hb_112 hb_113 hb_114 hb_115
        clear  hbE_11
        obtain ⟨hr_12, hr_12p⟩ := hr_12
        obtain ⟨ret_13, rfl, hg_ret_13⟩ := hr_12
        refine j7_nld_n hx hb dX11_numberOf_25 rfl (lv_at hl 1 rfl) ?_
        refine lv_acmp_ne (rx := (some ret_13)) (ry := none) (tgt := 31) hx hb dX11_numberOf_26 (by decide) (fun c_14 => ?_) (fun c_14 => ?_)
        · skip
          obtain ⟨z_15, ez_15⟩ : ∃ y : Int32, y = v2_1 + 1 := ⟨_, rfl⟩
          refine lv_iinc (v := z_15) (lv' := [(2, .int z_15), (0, .ref r0), (1, .null)]) hx hb dX11_numberOf_31 hl (k := 2) rfl (by rw [ez_15]; rfl) (by decide) rfl (fun ls hl => ?_)
          have hz_15 : z_15.toInt = v2_1.toInt + 1 := by rw [ez_15]; exact jb_iadd2 (rfl) (by decide) (by omega)
          refine lv_goto (tgt := 2) hx hb dX11_numberOf_34 (by decide) ?_
          exact L2 z_15 _ _ (hh_11.sub (L1 := []) [] rfl (M1 := []) [] rfl (I1 := [(jFl, jLs dC dI ca G0 3 none wl)]) [0] rfl) (by first | omega | (refine ⟨?_, ?_⟩ <;> (first | omega | rfl | assumption | decide | exact Or.inl rfl | exact Or.inr rfl | (simp only; omega)))) (by omega) _ (lv_sub hl [1, 2, 0] rfl)
        · skip
          cases c_14
  exact L2 (41 - (0 : Int32).toInt : Int).toNat.succ 0 _ _ hh (by first | omega | (refine ⟨?_, ?_⟩ <;> (first | omega | rfl | assumption | decide | exact Or.inl rfl | exact Or.inr rfl | (simp only; omega)))) (by omega) _ (lv_sub hl [1, 2, 0] rfl)
end
section
theorem dX11_dismiss_0 : decode cX11_dismiss 0 = .ok (.iconst 0, 1) := by decide +kernel
theorem dX11_dismiss_1 : decode cX11_dismiss 1 = .ok (.istore_n 2, 1) := by decide +kernel
theorem dX11_dismiss_2 : decode cX11_dismiss 2 = .ok (.iconst 0, 1) := by decide +kernel
theorem dX11_dismiss_3 : decode cX11_dismiss 3 = .ok (.istore_n 3, 1) := by decide +kernel
theorem dX11_dismiss_4 : decode cX11_dismiss 4 = .ok (.iload_n 3, 1) := by decide +kernel
theorem dX11_dismiss_5 : decode cX11_dismiss 5 = .ok (.bipush 12, 2) := by decide +kernel
theorem dX11_dismiss_7 : decode cX11_dismiss 7 = .ok (.if_icmp .ge 68, 3) := by decide +kernel
theorem dX11_dismiss_10 : decode cX11_dismiss 10 = .ok (.iload_n 2, 1) := by decide +kernel
theorem dX11_dismiss_11 : decode cX11_dismiss 11 = .ok (.aload_n 0, 1) := by decide +kernel
theorem dX11_dismiss_12 : decode cX11_dismiss 12 = .ok (.getfield 65, 3) := by decide +kernel
theorem dX11_dismiss_15 : decode cX11_dismiss 15 = .ok (.invokeinterface 142 1, 5) := by decide +kernel
theorem dX11_dismiss_20 : decode cX11_dismiss 20 = .ok (.if_icmp .ge 55, 3) := by decide +kernel
theorem dX11_dismiss_23 : decode cX11_dismiss 23 = .ok (.aload_n 0, 1) := by decide +kernel
theorem dX11_dismiss_24 : decode cX11_dismiss 24 = .ok (.getfield 65, 3) := by decide +kernel
theorem dX11_dismiss_27 : decode cX11_dismiss 27 = .ok (.iload_n 2, 1) := by decide +kernel
theorem dX11_dismiss_28 : decode cX11_dismiss 28 = .ok (.invokeinterface 249 2, 5) := by decide +kernel
theorem dX11_dismiss_33 : decode cX11_dismiss 33 = .ok (.checkcast 115, 3) := by decide +kernel
theorem dX11_dismiss_36 : decode cX11_dismiss 36 = .ok (.getfield 432, 3) := by decide +kernel
theorem dX11_dismiss_39 : decode cX11_dismiss 39 = .ok (.aload_n 1, 1) := by decide +kernel
theorem dX11_dismiss_40 : decode cX11_dismiss 40 = .ok (.if_acmp .ne 26, 3) := by decide +kernel
theorem dX11_dismiss_43 : decode cX11_dismiss 43 = .ok (.aload_n 0, 1) := by decide +kernel
theorem dX11_dismiss_44 : decode cX11_dismiss 44 = .ok (.aload_n 0, 1) := by decide +kernel
theorem dX11_dismiss_45 : decode cX11_dismiss 45 = .ok (.getfield 65, 3) := by decide +kernel
theorem dX11_dismiss_48 : decode cX11_dismiss 48 = .ok (.iload_n 2, 1) := by decide +kernel
theorem dX11_dismiss_49 : decode cX11_dismiss 49 = .ok (.invokeinterface 423 2, 5) := by decide +kernel
theorem dX11_dismiss_54 : decode cX11_dismiss 54 = .ok (.checkcast 115, 3) := by decide +kernel
theorem dX11_dismiss_57 : decode cX11_dismiss 57 = .ok (.ldc_w 459, 3) := by decide +kernel
theorem dX11_dismiss_60 : decode cX11_dismiss 60 = .ok (.invokevirtual 267, 3) := by decide +kernel
theorem dX11_dismiss_63 : decode cX11_dismiss 63 = .ok (.goto 6, 3) := by decide +kernel
theorem dX11_dismiss_66 : decode cX11_dismiss 66 = .ok (.iinc 2 1, 3) := by decide +kernel
theorem dX11_dismiss_69 : decode cX11_dismiss 69 = .ok (.iinc 3 1, 3) := by decide +kernel
theorem dX11_dismiss_72 : decode cX11_dismiss 72 = .ok (.goto (-68), 3) := by decide +kernel
theorem dX11_dismiss_75 : decode cX11_dismiss 75 = .ok (.return_, 1) := by decide +kernel
end
section
theorem dX11_addressed_0 : decode cX11_addressed 0 = .ok (.aload_n 0, 1) := by decide +kernel
theorem dX11_addressed_1 : decode cX11_addressed 1 = .ok (.getfield 28, 3) := by decide +kernel
theorem dX11_addressed_4 : decode cX11_addressed 4 = .ok (.aload_n 0, 1) := by decide +kernel
theorem dX11_addressed_5 : decode cX11_addressed 5 = .ok (.getfield 28, 3) := by decide +kernel
theorem dX11_addressed_8 : decode cX11_addressed 8 = .ok (.aload_n 0, 1) := by decide +kernel
theorem dX11_addressed_9 : decode cX11_addressed 9 = .ok (.getfield 28, 3) := by decide +kernel
theorem dX11_addressed_12 : decode cX11_addressed 12 = .ok (.iconst 0, 1) := by decide +kernel
theorem dX11_addressed_13 : decode cX11_addressed 13 = .ok (.ldc_w 271, 3) := by decide +kernel
theorem dX11_addressed_16 : decode cX11_addressed 16 = .ok (.invokevirtual 260, 3) := by decide +kernel
theorem dX11_addressed_19 : decode cX11_addressed 19 = .ok (.ldc_w 344, 3) := by decide +kernel
theorem dX11_addressed_22 : decode cX11_addressed 22 = .ok (.invokevirtual 260, 3) := by decide +kernel
theorem dX11_addressed_25 : decode cX11_addressed 25 = .ok (.ldc_w 346, 3) := by decide +kernel
theorem dX11_addressed_28 : decode cX11_addressed 28 = .ok (.invokevirtual 260, 3) := by decide +kernel
theorem dX11_addressed_31 : decode cX11_addressed 31 = .ok (.istore_n 1, 1) := by decide +kernel
theorem dX11_addressed_32 : decode cX11_addressed 32 = .ok (.iconst 0, 1) := by decide +kernel
theorem dX11_addressed_33 : decode cX11_addressed 33 = .ok (.istore_n 2, 1) := by decide +kernel
theorem dX11_addressed_34 : decode cX11_addressed 34 = .ok (.iload_n 2, 1) := by decide +kernel
theorem dX11_addressed_35 : decode cX11_addressed 35 = .ok (.aload_n 0, 1) := by decide +kernel
theorem dX11_addressed_36 : decode cX11_addressed 36 = .ok (.getfield 61, 3) := by decide +kernel
theorem dX11_addressed_39 : decode cX11_addressed 39 = .ok (.invokeinterface 142 1, 5) := by decide +kernel
theorem dX11_addressed_44 : decode cX11_addressed 44 = .ok (.if_icmp .ge 50, 3) := by decide +kernel
theorem dX11_addressed_47 : decode cX11_addressed 47 = .ok (.aload_n 0, 1) := by decide +kernel
theorem dX11_addressed_48 : decode cX11_addressed 48 = .ok (.getfield 28, 3) := by decide +kernel
theorem dX11_addressed_51 : decode cX11_addressed 51 = .ok (.iload_n 1, 1) := by decide +kernel
theorem dX11_addressed_52 : decode cX11_addressed 52 = .ok (.aload_n 0, 1) := by decide +kernel
theorem dX11_addressed_53 : decode cX11_addressed 53 = .ok (.getfield 61, 3) := by decide +kernel
theorem dX11_addressed_56 : decode cX11_addressed 56 = .ok (.iload_n 2, 1) := by decide +kernel
theorem dX11_addressed_57 : decode cX11_addressed 57 = .ok (.invokeinterface 249 2, 5) := by decide +kernel
theorem dX11_addressed_62 : decode cX11_addressed 62 = .ok (.checkcast 71, 3) := by decide +kernel
theorem dX11_addressed_65 : decode cX11_addressed 65 = .ok (.getfield 348, 3) := by decide +kernel
theorem dX11_addressed_68 : decode cX11_addressed 68 = .ok (.invokevirtual 350, 3) := by decide +kernel
theorem dX11_addressed_71 : decode cX11_addressed 71 = .ok (.ifCond .eq 17, 3) := by decide +kernel
theorem dX11_addressed_74 : decode cX11_addressed 74 = .ok (.aload_n 0, 1) := by decide +kernel
theorem dX11_addressed_75 : decode cX11_addressed 75 = .ok (.getfield 61, 3) := by decide +kernel
theorem dX11_addressed_78 : decode cX11_addressed 78 = .ok (.iload_n 2, 1) := by decide +kernel
theorem dX11_addressed_79 : decode cX11_addressed 79 = .ok (.invokeinterface 249 2, 5) := by decide +kernel
theorem dX11_addressed_84 : decode cX11_addressed 84 = .ok (.checkcast 71, 3) := by decide +kernel
theorem dX11_addressed_87 : decode cX11_addressed 87 = .ok (.areturn, 1) := by decide +kernel
theorem dX11_addressed_88 : decode cX11_addressed 88 = .ok (.iinc 2 1, 3) := by decide +kernel
theorem dX11_addressed_91 : decode cX11_addressed 91 = .ok (.goto (-57), 3) := by decide +kernel
theorem dX11_addressed_94 : decode cX11_addressed 94 = .ok (.aconst_null, 1) := by decide +kernel
theorem dX11_addressed_95 : decode cX11_addressed 95 = .ok (.areturn, 1) := by decide +kernel
end
section
theorem dX11_closeDocument_0 : decode cX11_closeDocument 0 = .ok (.aload_n 0, 1) := by decide +kernel
theorem dX11_closeDocument_1 : decode cX11_closeDocument 1 = .ok (.invokevirtual 359, 3) := by decide +kernel
theorem dX11_closeDocument_4 : decode cX11_closeDocument 4 = .ok (.astore_n 1, 1) := by decide +kernel
theorem dX11_closeDocument_5 : decode cX11_closeDocument 5 = .ok (.aload_n 0, 1) := by decide +kernel
theorem dX11_closeDocument_6 : decode cX11_closeDocument 6 = .ok (.aload_n 1, 1) := by decide +kernel
theorem dX11_closeDocument_7 : decode cX11_closeDocument 7 = .ok (.invokevirtual 154, 3) := by decide +kernel
theorem dX11_closeDocument_10 : decode cX11_closeDocument 10 = .ok (.istore_n 2, 1) := by decide +kernel
theorem dX11_closeDocument_11 : decode cX11_closeDocument 11 = .ok (.aload_n 1, 1) := by decide +kernel
theorem dX11_closeDocument_12 : decode cX11_closeDocument 12 = .ok (.ifnull 7, 3) := by decide +kernel
theorem dX11_closeDocument_15 : decode cX11_closeDocument 15 = .ok (.iload_n 2, 1) := by decide +kernel
theorem dX11_closeDocument_16 : decode cX11_closeDocument 16 = .ok (.ifCond .ge 4, 3) := by decide +kernel
theorem dX11_closeDocument_19 : decode cX11_closeDocument 19 = .ok (.return_, 1) := by decide +kernel
theorem dX11_closeDocument_20 : decode cX11_closeDocument 20 = .ok (.aload_n 0, 1) := by decide +kernel
theorem dX11_closeDocument_21 : decode cX11_closeDocument 21 = .ok (.aload_n 1, 1) := by decide +kernel
theorem dX11_closeDocument_22 : decode cX11_closeDocument 22 = .ok (.invokevirtual 403, 3) := by decide +kernel
theorem dX11_closeDocument_25 : decode cX11_closeDocument 25 = .ok (.aload_n 0, 1) := by decide +kernel
theorem dX11_closeDocument_26 : decode cX11_closeDocument 26 = .ok (.aload_n 1, 1) := by decide +kernel
theorem dX11_closeDocument_27 : decode cX11_closeDocument 27 = .ok (.invokevirtual 397, 3) := by decide +kernel
theorem dX11_closeDocument_30 : decode cX11_closeDocument 30 = .ok (.aload_n 0, 1) := by decide +kernel
theorem dX11_closeDocument_31 : decode cX11_closeDocument 31 = .ok (.getfield 61, 3) := by decide +kernel
theorem dX11_closeDocument_34 : decode cX11_closeDocument 34 = .ok (.iload_n 2, 1) := by decide +kernel
theorem dX11_closeDocument_35 : decode cX11_closeDocument 35 = .ok (.invokeinterface 423 2, 5) := by decide +kernel
theorem dX11_closeDocument_40 : decode cX11_closeDocument 40 = .ok (.pop, 1) := by decide +kernel
theorem dX11_closeDocument_41 : decode cX11_closeDocument 41 = .ok (.aload_n 0, 1) := by decide +kernel
theorem dX11_closeDocument_42 : decode cX11_closeDocument 42 = .ok (.aload_n 1, 1) := by decide +kernel
theorem dX11_closeDocument_43 : decode cX11_closeDocument 43 = .ok (.iconst 0, 1) := by decide +kernel
theorem dX11_closeDocument_44 : decode cX11_closeDocument 44 = .ok (.invokevirtual 378, 3) := by decide +kernel
theorem dX11_closeDocument_47 : decode cX11_closeDocument 47 = .ok (.return_, 1) := by decide +kernel
end
section
-- p9: what is asked of JSON that was read
theorem jqTx_0 {T : Nat → Int → Int} {f : Nat → Int32} {a : Int} {m n : Nat} (h : m < n) (he : T 7 (a + m) ≠ (jCv (f m)).toInt) : jqTx T f a n = 0 := by
  induction n with
  | zero => omega
  | succ n ih =>
    have e : jqTx T f a (n + 1) = if T 7 (a + n) = (jCv (f n)).toInt then jqTx T f a n else 0 := rfl
    rw [e]
    by_cases q : m = n
    · subst q; rw [if_neg he]
    · split
      · exact ih (by omega)
      · rfl
theorem jqTx_1 {T : Nat → Int → Int} {f : Nat → Int32} {a : Int} {m : Nat} (h : jqTx T f a m = 1) (he : T 7 (a + m) = (jCv (f m)).toInt) : jqTx T f a (m + 1) = 1 := by
  have e : jqTx T f a (m + 1) = if T 7 (a + m) = (jCv (f m)).toInt then jqTx T f a m else 0 := rfl
  rw [e, if_pos he]; exact h
theorem jqMl_s {T : Nat → Int → Int} {f : Nat → Int32} {n k : Nat} {c d c1 d1 : Int} (hk : 0 < k) (e1 : c1 = T 4 c) (e2 : (jqU T f n (T 5 c) (T 6 c) = 1 ∧ d1 = c) ∨ (jqU T f n (T 5 c) (T 6 c) ≠ 1 ∧ d1 = d)) : jqMl T f n (k - 1) c1 d1 = jqMl T f n k c d := by
  cases k with
  | zero => omega
  | succ k =>
    have e : jqMl T f n (k + 1) c d = jqMl T f n k (T 4 c) (if jqU T f n (T 5 c) (T 6 c) = 1 then c else d) := rfl
    rw [e, ← e1]
    rcases e2 with ⟨q, rfl⟩ | ⟨q, rfl⟩
    · rw [if_pos q]; rfl
    · rw [if_neg q]; rfl
end
section
def EX4_kindOfJ : List (Nat × Nat) := []
def EX4_sizeOfJ : List (Nat × Nat) := []
def EX4_areUnitsJ : List (Nat × Nat) := []
def EX4_memberJ : List (Nat × Nat) := []
def EX4_unitAtJ : List (Nat × Nat) := []
set_option maxHeartbeats 4000000 in
set_option maxRecDepth 20000 in
theorem uX4_kindOfJ (l : Launch) (dC : Nat → ClassId) (dI : Nat → Nat → Nat) (ca : Nat → ClassId) (base : Nat) (B : jF) (hB : jBok B) (hAp : jAp (dC, dI)) (hB6 : ∀ n G a H, B 6 n G a H ↔ jOb (dC, dI) 6 12 (F6 n G) a H) (hB140 : ∀ n G a H, B 140 n G a H ↔ jAr (dC, dI) (ca 1) (fun j z => True) n a H) (G0 : jT) (H0 : Heap) (r0 : Nat) (a1 : Int32) (pv : Int32) (pu : Int32) (wk : Nat) (wi : Nat) (wz : Nat) (jnx : Nat) (jkf : Nat) (jks : Nat) (jun : Nat) (T9 : Nat → Int → Int) (fk : Nat → Int32) (fi : Nat → Int32) (fz : Nat → Int32) (fn : Nat → Int32) (fa : Nat → Int32) (fs : Nat → Int32) (fu : Nat → Int32) : Met l yX4_kindOf (jw yX4_kindOf cX4_kindOf 2 (some .int)) ({ frames := 0, cells := 0, slots := 0, locals := 0 }) (va_Pc [.ref r0, .int a1] (fun U => U.heap = H0 ∧ jX B base G0 [] H0 ∧ jG dC dI ca base U ∧ G0 r0 = some (6, 0) ∧ G0 wk = some (140, 1502) ∧ G0 wi = some (141, 1502) ∧ G0 wz = some (142, 1502) ∧ G0 jnx = some (143, 1502) ∧ G0 jkf = some (144, 1502) ∧ G0 jks = some (145, 1502) ∧ G0 jun = some (146, 3000) ∧ jP (dC, dI) G0 H0 [(r0, 6, 7, .int pv), (r0, 6, 8, .int pu), (r0, 6, 0, .ref wk), (r0, 6, 1, .ref wi), (r0, 6, 2, .ref wz), (r0, 6, 3, .ref jnx), (r0, 6, 4, .ref jkf), (r0, 6, 5, .ref jks), (r0, 6, 6, .ref jun)] ∧ jMc (dC, dI) G0 H0 [(wk, 140, 1502, ca 1, fk), (wi, 141, 1502, ca 1, fi), (wz, 142, 1502, ca 1, fz), (jnx, 143, 1502, ca 1, fn), (jkf, 144, 1502, ca 1, fa), (jks, 145, 1502, ca 1, fs), (jun, 146, 3000, ca 1, fu)] ∧ 0 ≤ pv.toInt ∧ pv.toInt ≤ 1502 ∧ 0 ≤ pu.toInt ∧ pu.toInt ≤ 3000 ∧ jjTC T9 pv.toInt pu.toInt fk fi fz fn fa fs fu)) (va_Qi (S := Unit) (fun r u => ((r.toInt = 0 ∨ (0 ≤ a1.toInt ∧ a1.toInt < pv.toInt ∧ r.toInt = jSo fk a1.toInt)) ∧ r.toInt = jqK T9 pv.toInt a1.toInt)) (fun u t => (jRt (dC, dI) B base G0 EX4_kindOfJ H0 [] t.heap) ∧ jKl [] H0 t.heap) (jA base)) 0 0 (jA base) := by
  refine Met.ofW (cc := cX4_kindOf) (maxL := 2) (ret := (some .int)) (by decide) rfl ?_
  intro p e s m args below meth c s₁ Bd hml hv
  obtain ⟨rfl, hH0, hX, hG, hg_r0, hg_wk, hg_wi, hg_wz, hg_jnx, hg_jkf, hg_jks, hg_jun, hP0, hM0, hp0, hp1, hp2, hp3, hp4⟩ := hv
  have hK := hG.1
  have hx := Bd.exec
  have hb := Bd.bytes
  have hr := Bd.returns
  have hts := atoms_spec (ws := (jw yX4_kindOf cX4_kindOf 2 (some .int))) Bd.pre
  have htw : ∀ w ∈ jWl, w.before _ s = true := fun w h => hts w (List.mem_cons_of_mem _ h)
  have hown : s.vm.findClass RX4 = some m.cls := findClass_of_methodNamed Bd.named
  have hlocks := Bd.notSynchronized
  obtain ⟨Q, hQ⟩ : ∃ Q, Q = MQ below (va_Qi (S := Unit) (fun r u => ((r.toInt = 0 ∨ (0 ≤ a1.toInt ∧ a1.toInt < pv.toInt ∧ r.toInt = jSo fk a1.toInt)) ∧ r.toInt = jqK T9 pv.toInt a1.toInt)) (fun u t => (jRt (dC, dI) B base G0 EX4_kindOfJ H0 [] t.heap) ∧ jKl [] H0 t.heap) (jA base)) ([.ref r0, .int a1] : List Value).toArray s 0 0 (jA base) := ⟨_, rfl⟩
  rw [← hQ]
  have hl := lv_entry ([.ref r0, .int a1]) (n := 2) (Nat.le_of_ble_eq_true rfl)
  rw [lg_entry_eq]
  generalize (lg_sl ([.ref r0, .int a1]) ++ List.replicate (2 - (lg_sl ([.ref r0, .int a1])).length) Slot.unset).toArray = ls at hl ⊢
  have hl : lv_has ls 2 [(0, .ref r0), (1, .int a1)] := hl
  generalize hR : (headSpec (jw yX4_kindOf cX4_kindOf 2 (some .int)) ({ frames := 0, cells := 0, slots := 0, locals := 0 })).room = R
  subst hH0
  have hh : jSt (dC, dI) B base G0 G0 EX4_kindOfJ s.heap 0 0 [(r0, 6, 7, .int pv), (r0, 6, 8, .int pu), (r0, 6, 0, .ref wk), (r0, 6, 1, .ref wi), (r0, 6, 2, .ref wz), (r0, 6, 3, .ref jnx), (r0, 6, 4, .ref jkf), (r0, 6, 5, .ref jks), (r0, 6, 6, .ref jun)] [(wk, 140, 1502, ca 1, fk), (wi, 141, 1502, ca 1, fi), (wz, 142, 1502, ca 1, fz), (jnx, 143, 1502, ca 1, fn), (jkf, 144, 1502, ca 1, fa), (jks, 145, 1502, ca 1, fs), (jun, 146, 3000, ca 1, fu)] [] s.heap [] := jSt.start hX hP0 hM0 jIs.nil
  clear hX hP0
  have hk0 : (0 : Int32).toInt = 0 := by decide
  have hk1 : (1 : Int32).toInt = 1 := by decide
  have hly_6_0 := htw (u_lay RX4 TX4 0) (jWc_wsX40 _ (u_in_lay (by decide)))
  have hly_6_7 := htw (u_lay RX4 TX4 7) (jWc_wsX40 _ (u_in_lay (by decide)))
  have hlk_50 := (htw (.fieldLink RX4 50 "ProofServer$Json" "values" "I") (jWr_19 _ (List.mem_of_getElem? (i := 13) rfl)))
  have hlk_11 := (htw (.fieldLink RX4 11 "ProofServer$Json" "kinds" "[I") (jWr_3 _ (List.mem_of_getElem? (i := 21) rfl)))
  have hrg_a1 := jb_rng a1
  have hfl : jKl [] s.heap s.heap := jKl.rf
  refine lv_iload_n hx hb dX4_kindOf_0 rfl (lv_at hl 1 rfl) ?_
  refine lv_if_lt (tgt := 12) hx hb dX4_kindOf_1 (by decide) (fun c_1 => ?_) (fun c_1 => ?_)
  · skip
    have c_1' : a1.toInt < 0 := jb_lt (rfl) ((by decide)) c_1
    refine lv_iconst (v := 0) hx hb dX4_kindOf_12 (by decide) ?_
    refine lv_goto (tgt := 22) hx hb dX4_kindOf_13 (by decide) ?_
    rw [hQ]
    exact W.iret (v := 0) hx hb hr (fun t ht hW => ⟨⟨0, (), rfl, by refine ⟨by omega, ?_⟩; unfold jqK; rw [if_neg (fun h9 => by omega)]; exact hk0, ⟨hh.rt (M1 := []) [] rfl ht, by rw [ht]; exact hfl⟩⟩, by rw [ht]; try exact hh.1.1, fun q h9 hq => by rw [ht]; try exact hh.1.2.1 q h9 hq⟩) hh.1.2.2 dX4_kindOf_22
  · skip
    have c_1' : a1.toInt ≥ 0 := jb_lt_n (rfl) ((by decide)) c_1
    refine lv_iload_n hx hb dX4_kindOf_4 rfl (lv_at hl 1 rfl) ?_
    refine lv_aload_n hx hb dX4_kindOf_5 rfl (lv_at hl 0 rfl) ?_
    refine j7_read hx hb hown hK (C := RX4) (T := TX4) (N := 12) rfl hly_6_7 hlk_50 (hh.at 0 rfl) dX4_kindOf_6 ?_
    refine lv_icmp_lt (tgt := 16) hx hb dX4_kindOf_9 (by decide) (fun c_2 => ?_) (fun c_2 => ?_)
    · skip
      have c_2' : a1.toInt < pv.toInt := jb_lt (rfl) (rfl) c_2
      refine lv_aload_n hx hb dX4_kindOf_16 rfl (lv_at hl 0 rfl) ?_
      refine j7_read hx hb hown hK (C := RX4) (T := TX4) (N := 12) rfl hly_6_0 hlk_11 (hh.at 2 rfl) dX4_kindOf_17 ?_
      refine lv_iload_n hx hb dX4_kindOf_20 rfl (lv_at hl 1 rfl) ?_
      refine j7_ialdM hx hb hK hh hB140 1 rfl (by decide) hg_wk (x := a1.toInt) (rfl) (by omega) (j := 0) rfl dX4_kindOf_21 (fun z_3 ez_3 (hz_3 : True) => ?_)
      have hqz_3 : z_3.toInt = jSo fk (a1.toInt) := by unfold jSo; rw [ez_3]
      rw [hQ]
      exact W.iret (v := z_3) hx hb hr (fun t ht hW => ⟨⟨z_3, (), rfl, by refine ⟨by omega, ?_⟩; unfold jqK; rw [if_pos ⟨by omega, by omega⟩]; exact hqz_3.trans (hp4.1 _ (by omega) (by omega)).symm, ⟨hh.rt (M1 := []) [] rfl ht, by rw [ht]; exact hfl⟩⟩, by rw [ht]; try exact hh.1.1, fun q h9 hq => by rw [ht]; try exact hh.1.2.1 q h9 hq⟩) hh.1.2.2 dX4_kindOf_22
    · skip
      have c_2' : a1.toInt ≥ pv.toInt := jb_lt_n (rfl) (rfl) c_2
      refine lv_iconst (v := 0) hx hb dX4_kindOf_12 (by decide) ?_
      refine lv_goto (tgt := 22) hx hb dX4_kindOf_13 (by decide) ?_
      rw [hQ]
      exact W.iret (v := 0) hx hb hr (fun t ht hW => ⟨⟨0, (), rfl, by refine ⟨by omega, ?_⟩; unfold jqK; rw [if_neg (fun h9 => by omega)]; exact hk0, ⟨hh.rt (M1 := []) [] rfl ht, by rw [ht]; exact hfl⟩⟩, by rw [ht]; try exact hh.1.1, fun q h9 hq => by rw [ht]; try exact hh.1.2.1 q h9 hq⟩) hh.1.2.2 dX4_kindOf_22
set_option maxHeartbeats 4000000 in
set_option maxRecDepth 20000 in
theorem uX4_sizeOfJ (l : Launch) (dC : Nat → ClassId) (dI : Nat → Nat → Nat) (ca : Nat → ClassId) (base : Nat) (B : jF) (hB : jBok B) (hAp : jAp (dC, dI)) (hB6 : ∀ n G a H, B 6 n G a H ↔ jOb (dC, dI) 6 12 (F6 n G) a H) (hB142 : ∀ n G a H, B 142 n G a H ↔ jAr (dC, dI) (ca 1) (fun j z => True) n a H) (G0 : jT) (H0 : Heap) (r0 : Nat) (a1 : Int32) (pv : Int32) (pu : Int32) (wk : Nat) (wi : Nat) (wz : Nat) (jnx : Nat) (jkf : Nat) (jks : Nat) (jun : Nat) (T9 : Nat → Int → Int) (fk : Nat → Int32) (fi : Nat → Int32) (fz : Nat → Int32) (fn : Nat → Int32) (fa : Nat → Int32) (fs : Nat → Int32) (fu : Nat → Int32) : Met l yX4_sizeOf (jw yX4_sizeOf cX4_sizeOf 2 (some .int)) ({ frames := 0, cells := 0, slots := 0, locals := 0 }) (va_Pc [.ref r0, .int a1] (fun U => U.heap = H0 ∧ jX B base G0 [] H0 ∧ jG dC dI ca base U ∧ G0 r0 = some (6, 0) ∧ G0 wk = some (140, 1502) ∧ G0 wi = some (141, 1502) ∧ G0 wz = some (142, 1502) ∧ G0 jnx = some (143, 1502) ∧ G0 jkf = some (144, 1502) ∧ G0 jks = some (145, 1502) ∧ G0 jun = some (146, 3000) ∧ jP (dC, dI) G0 H0 [(r0, 6, 7, .int pv), (r0, 6, 8, .int pu), (r0, 6, 0, .ref wk), (r0, 6, 1, .ref wi), (r0, 6, 2, .ref wz), (r0, 6, 3, .ref jnx), (r0, 6, 4, .ref jkf), (r0, 6, 5, .ref jks), (r0, 6, 6, .ref jun)] ∧ jMc (dC, dI) G0 H0 [(wk, 140, 1502, ca 1, fk), (wi, 141, 1502, ca 1, fi), (wz, 142, 1502, ca 1, fz), (jnx, 143, 1502, ca 1, fn), (jkf, 144, 1502, ca 1, fa), (jks, 145, 1502, ca 1, fs), (jun, 146, 3000, ca 1, fu)] ∧ 0 ≤ pv.toInt ∧ pv.toInt ≤ 1502 ∧ 0 ≤ pu.toInt ∧ pu.toInt ≤ 3000 ∧ jjTC T9 pv.toInt pu.toInt fk fi fz fn fa fs fu)) (va_Qi (S := Unit) (fun r u => ((a1.toInt < 0 ∨ pv.toInt ≤ a1.toInt ∨ r.toInt = jSo fz a1.toInt) ∧ r.toInt = jqZ T9 pv.toInt a1.toInt)) (fun u t => (jRt (dC, dI) B base G0 EX4_sizeOfJ H0 [] t.heap) ∧ jKl [] H0 t.heap) (jA base)) 0 0 (jA base) := by
  refine Met.ofW (cc := cX4_sizeOf) (maxL := 2) (ret := (some .int)) (by decide) rfl ?_
  intro p e s m args below meth c s₁ Bd hml hv
  obtain ⟨rfl, hH0, hX, hG, hg_r0, hg_wk, hg_wi, hg_wz, hg_jnx, hg_jkf, hg_jks, hg_jun, hP0, hM0, hp0, hp1, hp2, hp3, hp4⟩ := hv
  have hK := hG.1
  have hx := Bd.exec
  have hb := Bd.bytes
  have hr := Bd.returns
  have hts := atoms_spec (ws := (jw yX4_sizeOf cX4_sizeOf 2 (some .int))) Bd.pre
  have htw : ∀ w ∈ jWl, w.before _ s = true := fun w h => hts w (List.mem_cons_of_mem _ h)
  have hown : s.vm.findClass RX4 = some m.cls := findClass_of_methodNamed Bd.named
  have hlocks := Bd.notSynchronized
  obtain ⟨Q, hQ⟩ : ∃ Q, Q = MQ below (va_Qi (S := Unit) (fun r u => ((a1.toInt < 0 ∨ pv.toInt ≤ a1.toInt ∨ r.toInt = jSo fz a1.toInt) ∧ r.toInt = jqZ T9 pv.toInt a1.toInt)) (fun u t => (jRt (dC, dI) B base G0 EX4_sizeOfJ H0 [] t.heap) ∧ jKl [] H0 t.heap) (jA base)) ([.ref r0, .int a1] : List Value).toArray s 0 0 (jA base) := ⟨_, rfl⟩
  rw [← hQ]
  have hl := lv_entry ([.ref r0, .int a1]) (n := 2) (Nat.le_of_ble_eq_true rfl)
  rw [lg_entry_eq]
  generalize (lg_sl ([.ref r0, .int a1]) ++ List.replicate (2 - (lg_sl ([.ref r0, .int a1])).length) Slot.unset).toArray = ls at hl ⊢
  have hl : lv_has ls 2 [(0, .ref r0), (1, .int a1)] := hl
  generalize hR : (headSpec (jw yX4_sizeOf cX4_sizeOf 2 (some .int)) ({ frames := 0, cells := 0, slots := 0, locals := 0 })).room = R
  subst hH0
  have hh : jSt (dC, dI) B base G0 G0 EX4_sizeOfJ s.heap 0 0 [(r0, 6, 7, .int pv), (r0, 6, 8, .int pu), (r0, 6, 0, .ref wk), (r0, 6, 1, .ref wi), (r0, 6, 2, .ref wz), (r0, 6, 3, .ref jnx), (r0, 6, 4, .ref jkf), (r0, 6, 5, .ref jks), (r0, 6, 6, .ref jun)] [(wk, 140, 1502, ca 1, fk), (wi, 141, 1502, ca 1, fi), (wz, 142, 1502, ca 1, fz), (jnx, 143, 1502, ca 1, fn), (jkf, 144, 1502, ca 1, fa), (jks, 145, 1502, ca 1, fs), (jun, 146, 3000, ca 1, fu)] [] s.heap [] := jSt.start hX hP0 hM0 jIs.nil
  clear hX hP0
  have hk0 : (0 : Int32).toInt = 0 := by decide
  have hk1 : (1 : Int32).toInt = 1 := by decide
  have hly_6_2 := htw (u_lay RX4 TX4 2) (jWc_wsX40 _ (u_in_lay (by decide)))
  have hly_6_7 := htw (u_lay RX4 TX4 7) (jWc_wsX40 _ (u_in_lay (by decide)))
  have hlk_50 := (htw (.fieldLink RX4 50 "ProofServer$Json" "values" "I") (jWr_19 _ (List.mem_of_getElem? (i := 13) rfl)))
  have hlk_18 := (htw (.fieldLink RX4 18 "ProofServer$Json" "sizes" "[I") (jWr_3 _ (List.mem_of_getElem? (i := 23) rfl)))
  have hrg_a1 := jb_rng a1
  have hfl : jKl [] s.heap s.heap := jKl.rf
  refine lv_iload_n hx hb dX4_sizeOf_0 rfl (lv_at hl 1 rfl) ?_
  refine lv_if_lt (tgt := 12) hx hb dX4_sizeOf_1 (by decide) (fun c_1 => ?_) (fun c_1 => ?_)
  · skip
    have c_1' : a1.toInt < 0 := jb_lt (rfl) ((by decide)) c_1
    refine lv_iconst (v := 0) hx hb dX4_sizeOf_12 (by decide) ?_
    refine lv_goto (tgt := 22) hx hb dX4_sizeOf_13 (by decide) ?_
    rw [hQ]
    exact W.iret (v := 0) hx hb hr (fun t ht hW => ⟨⟨0, (), rfl, by refine ⟨by omega, ?_⟩; unfold jqZ; rw [if_neg (fun h9 => by omega)]; exact hk0, ⟨hh.rt (M1 := []) [] rfl ht, by rw [ht]; exact hfl⟩⟩, by rw [ht]; try exact hh.1.1, fun q h9 hq => by rw [ht]; try exact hh.1.2.1 q h9 hq⟩) hh.1.2.2 dX4_sizeOf_22
  · skip
    have c_1' : a1.toInt ≥ 0 := jb_lt_n (rfl) ((by decide)) c_1
    refine lv_iload_n hx hb dX4_sizeOf_4 rfl (lv_at hl 1 rfl) ?_
    refine lv_aload_n hx hb dX4_sizeOf_5 rfl (lv_at hl 0 rfl) ?_
    refine j7_read hx hb hown hK (C := RX4) (T := TX4) (N := 12) rfl hly_6_7 hlk_50 (hh.at 0 rfl) dX4_sizeOf_6 ?_
    refine lv_icmp_lt (tgt := 16) hx hb dX4_sizeOf_9 (by decide) (fun c_2 => ?_) (fun c_2 => ?_)
    · skip
      have c_2' : a1.toInt < pv.toInt := jb_lt (rfl) (rfl) c_2
      refine lv_aload_n hx hb dX4_sizeOf_16 rfl (lv_at hl 0 rfl) ?_
      refine j7_read hx hb hown hK (C := RX4) (T := TX4) (N := 12) rfl hly_6_2 hlk_18 (hh.at 4 rfl) dX4_sizeOf_17 ?_
      refine lv_iload_n hx hb dX4_sizeOf_20 rfl (lv_at hl 1 rfl) ?_
      refine j7_ialdM hx hb hK hh hB142 1 rfl (by decide) hg_wz (x := a1.toInt) (rfl) (by omega) (j := 2) rfl dX4_sizeOf_21 (fun z_3 ez_3 (hz_3 : True) => ?_)
      have hqz_3 : z_3.toInt = jSo fz (a1.toInt) := by unfold jSo; rw [ez_3]
      rw [hQ]
      exact W.iret (v := z_3) hx hb hr (fun t ht hW => ⟨⟨z_3, (), rfl, by refine ⟨by omega, ?_⟩; unfold jqZ; rw [if_pos ⟨by omega, by omega⟩]; exact hqz_3.trans (hp4.2.2.1 _ (by omega) (by omega)).symm, ⟨hh.rt (M1 := []) [] rfl ht, by rw [ht]; exact hfl⟩⟩, by rw [ht]; try exact hh.1.1, fun q h9 hq => by rw [ht]; try exact hh.1.2.1 q h9 hq⟩) hh.1.2.2 dX4_sizeOf_22
    · skip
      have c_2' : a1.toInt ≥ pv.toInt := jb_lt_n (rfl) (rfl) c_2
      refine lv_iconst (v := 0) hx hb dX4_sizeOf_12 (by decide) ?_
      refine lv_goto (tgt := 22) hx hb dX4_sizeOf_13 (by decide) ?_
      rw [hQ]
      exact W.iret (v := 0) hx hb hr (fun t ht hW => ⟨⟨0, (), rfl, by refine ⟨by omega, ?_⟩; unfold jqZ; rw [if_neg (fun h9 => by omega)]; exact hk0, ⟨hh.rt (M1 := []) [] rfl ht, by rw [ht]; exact hfl⟩⟩, by rw [ht]; try exact hh.1.1, fun q h9 hq => by rw [ht]; try exact hh.1.2.1 q h9 hq⟩) hh.1.2.2 dX4_sizeOf_22
set_option maxHeartbeats 4000000 in
set_option maxRecDepth 20000 in
theorem uX4_areUnitsJ (l : Launch) (dC : Nat → ClassId) (dI : Nat → Nat → Nat) (ca : Nat → ClassId) (base : Nat) (B : jF) (hB : jBok B) (hAp : jAp (dC, dI)) (hB6 : ∀ n G a H, B 6 n G a H ↔ jOb (dC, dI) 6 12 (F6 n G) a H) (hB146 : ∀ n G a H, B 146 n G a H ↔ jAr (dC, dI) (ca 1) (fun j z => True) n a H) (G0 : jT) (H0 : Heap) (r0 : Nat) (a1 : Int32) (a2 : Int32) (r3 : Nat) (n3 : Nat) (f3 : Nat → Int32) (pu : Int32) (jun : Nat) (T9 : Nat → Int → Int) (fu : Nat → Int32) : Met l yX4_areUnits (jw yX4_areUnits cX4_areUnits 5 (some .boolean)) ({ frames := 4, cells := 0, slots := 0, locals := 141 }) (va_Pc [.ref r0, .int a1, .int a2, .ref r3] (fun U => U.heap = H0 ∧ jX B base G0 [] H0 ∧ jG dC dI ca base U ∧ jStrF base r3 n3 f3 U H0 ∧ G0 r0 = some (6, 0) ∧ G0 jun = some (146, 3000) ∧ jP (dC, dI) G0 H0 [(r0, 6, 8, .int pu), (r0, 6, 6, .ref jun)] ∧ jMc (dC, dI) G0 H0 [(jun, 146, 3000, ca 1, fu)] ∧ jjA T9 7 pu.toInt fu ∧ n3 ≤ 1000 ∧ 0 ≤ a1.toInt ∧ 0 ≤ a2.toInt ∧ a1.toInt + a2.toInt ≤ pu.toInt ∧ pu.toInt ≤ 3000)) (va_Qi (S := Unit) (fun r u => (r = 0 ∨ r = 1) ∧ ((r.toInt = 0 ∨ a2.toInt = n3) ∧ r.toInt = jqU T9 f3 n3 a1.toInt a2.toInt)) (fun u t => (jRt (dC, dI) B base G0 EX4_areUnitsJ H0 [] t.heap) ∧ jKl [] H0 t.heap) (jA base)) 0 0 (jA base) := by
  refine Met.ofW (cc := cX4_areUnits) (maxL := 5) (ret := (some .boolean)) (by decide) rfl ?_
  intro p e s m args below meth c s₁ Bd hml hv
  obtain ⟨rfl, hH0, hX, hG, hstrF_r3, hg_r0, hg_jun, hP0, hM0, hp0, hp1, hp2, hp3, hp4, hp5⟩ := hv
  have hK := hG.1
  have hx := Bd.exec
  have hb := Bd.bytes
  have hr := Bd.returns
  have hts := atoms_spec (ws := (jw yX4_areUnits cX4_areUnits 5 (some .boolean))) Bd.pre
  have htw : ∀ w ∈ jWl, w.before _ s = true := fun w h => hts w (List.mem_cons_of_mem _ h)
  have hown : s.vm.findClass RX4 = some m.cls := findClass_of_methodNamed Bd.named
  have hlocks := Bd.notSynchronized
  obtain ⟨Q, hQ⟩ : ∃ Q, Q = MQ below (va_Qi (S := Unit) (fun r u => (r = 0 ∨ r = 1) ∧ ((r.toInt = 0 ∨ a2.toInt = n3) ∧ r.toInt = jqU T9 f3 n3 a1.toInt a2.toInt)) (fun u t => (jRt (dC, dI) B base G0 EX4_areUnitsJ H0 [] t.heap) ∧ jKl [] H0 t.heap) (jA base)) ([.ref r0, .int a1, .int a2, .ref r3] : List Value).toArray s 0 0 (jA base) := ⟨_, rfl⟩
  rw [← hQ]
  have hl := lv_entry ([.ref r0, .int a1, .int a2, .ref r3]) (n := 5) (Nat.le_of_ble_eq_true rfl)
  rw [lg_entry_eq]
  generalize (lg_sl ([.ref r0, .int a1, .int a2, .ref r3]) ++ List.replicate (5 - (lg_sl ([.ref r0, .int a1, .int a2, .ref r3])).length) Slot.unset).toArray = ls at hl ⊢
  have hstr_r3 := hstrF_r3.str
  have hl : lv_has ls 5 [(0, .ref r0), (1, .int a1), (2, .int a2), (3, .ref r3)] := hl
  generalize hR : (headSpec (jw yX4_areUnits cX4_areUnits 5 (some .boolean)) ({ frames := 4, cells := 0, slots := 0, locals := 141 })).room = R
  subst hH0
  have hh : jSt (dC, dI) B base G0 G0 EX4_areUnitsJ s.heap 0 0 [(r0, 6, 8, .int pu), (r0, 6, 6, .ref jun)] [(jun, 146, 3000, ca 1, fu)] [] s.heap [] := jSt.start hX hP0 hM0 jIs.nil
  clear hX hP0
  have hk0 : (0 : Int32).toInt = 0 := by decide
  have hk1 : (1 : Int32).toInt = 1 := by decide
  have hly_6_6 := htw (u_lay RX4 TX4 6) (jWc_wsX40 _ (u_in_lay (by decide)))
  have hlk_30 := (htw (.fieldLink RX4 30 "ProofServer$Json" "units" "[I") (jWr_4 _ (List.mem_of_getElem? (i := 3) rfl)))
  have hrg_a1 := jb_rng a1
  have hrg_a2 := jb_rng a2
  have hfl : jKl [] s.heap s.heap := jKl.rf
  refine lv_iload_n hx hb dX4_areUnits_0 rfl (lv_at hl 2 rfl) ?_
  refine lv_aload_n hx hb dX4_areUnits_1 rfl (lv_at hl 3 rfl) ?_
  refine vp_callSi (W.runV (As := []) (rest := [.int a2]) ⟨hx, hb, hml, hown, hts⟩ (wJ0_length_8abf5 l dC dI ca base s.heap r3 n3) (cwV 0 hts (jgV (jWr_20 _ (List.mem_of_getElem? (i := 23) rfl)) (jWr_5 _ (List.mem_of_getElem? (i := 13) rfl)) (jWr_5 _ (List.mem_of_getElem? (i := 14) rfl)) (jWr_5 _ (List.mem_of_getElem? (i := 15) rfl)) (jWr_5 _ (List.mem_of_getElem? (i := 16) rfl))) rfl rfl rfl (by decide +kernel) ⟨by rw [← hR]; exact Nat.le_of_ble_eq_true rfl, by rw [← hR]; exact Nat.le_of_ble_eq_true rfl⟩) ⟨fun a U g mk q => by obtain ⟨q0, q1, q2, qK, q9⟩ := q; exact ⟨q0, q1, (q2.moved (Vm.Alike.refl U.vm)), jG.calling g mk a qK, q9⟩, jStr_recv hstr_r3 hh.1, fun U hU hW => ⟨rfl, hU, (hstr_r3.moved hW.alike).kept hh.1.2.1, hG.step hW hU hh.1, by omega⟩⟩ rfl rfl hl.1 rfl (lv_room (Nat.le_of_ble_eq_true rfl)) dX4_areUnits_2 ⟨Nat.zero_le _, Nat.zero_le _⟩) (fun r_1 hr_1 => ?_)
  refine lv_icmp_ne (tgt := 23) hx hb dX4_areUnits_5 (by decide) (fun c_2 => ?_) (fun c_2 => ?_)
  · skip
    have c_2' : a2.toInt ≠ r_1.toInt := jb_ne (rfl) (rfl) c_2
    refine lv_iconst (v := 0) hx hb dX4_areUnits_23 (by decide) ?_
    rw [hQ]
    exact W.zret (v := 0) hx hb hr (jb_nz (Or.inl rfl)) (fun t ht hW => ⟨⟨0, (), rfl, ⟨(Or.inl rfl), by refine ⟨by omega, ?_⟩; unfold jqU; rw [if_neg (by omega)]; exact hk0⟩, ⟨hh.rt (M1 := []) [] rfl ht, by rw [ht]; exact hfl⟩⟩, by rw [ht]; try exact hh.1.1, fun q h9 hq => by rw [ht]; try exact hh.1.2.1 q h9 hq⟩) hh.1.2.2 dX4_areUnits_24
  · skip
    have c_2' : a2.toInt = r_1.toInt := jb_ne_n (rfl) (rfl) c_2
    refine lv_iload_n hx hb dX4_areUnits_8 rfl (lv_at hl 1 rfl) ?_
    refine lv_if_lt (tgt := 23) hx hb dX4_areUnits_9 (by decide) (fun c_3 => ?_) (fun c_3 => ?_)
    · skip
      have c_3' : a1.toInt < 0 := jb_lt (rfl) ((by decide)) c_3
      exact absurd c_3' (by omega)
    · skip
      have c_3' : a1.toInt ≥ 0 := jb_lt_n (rfl) ((by decide)) c_3
      refine lv_iload_n hx hb dX4_areUnits_12 rfl (lv_at hl 1 rfl) ?_
      refine lv_iload_n hx hb dX4_areUnits_13 rfl (lv_at hl 2 rfl) ?_
      refine lv_iadd hx hb dX4_areUnits_14 ?_
      refine lv_topi (fun z_4 ez_4 => ?_)
      have hz_4 : z_4.toInt = a1.toInt + a2.toInt := by rw [ez_4]; exact jb_iadd2 (rfl) (rfl) (by omega)
      refine lv_aload_n hx hb dX4_areUnits_15 rfl (lv_at hl 0 rfl) ?_
      refine j7_read hx hb hown hK (C := RX4) (T := TX4) (N := 12) rfl hly_6_6 hlk_30 (hh.at 1 rfl) dX4_areUnits_16 ?_
      refine j7_len hx hb hK hh hB146 1 rfl (by decide) hg_jun (by omega) dX4_areUnits_19 (fun z_5 hz_5 => ?_)
      refine lv_icmp_le (tgt := 25) hx hb dX4_areUnits_20 (by decide) (fun c_6 => ?_) (fun c_6 => ?_)
      · skip
        have c_6' : z_4.toInt ≤ z_5.toInt := jb_le (rfl) (rfl) c_6
        refine lv_iconst (v := 0) hx hb dX4_areUnits_25 (by decide) ?_
        refine lv_istore (lv' := [(4, .int 0), (0, .ref r0), (1, .int a1), (2, .int a2), (3, .ref r3)]) hx hb dX4_areUnits_26 hl (by decide) rfl (fun ls hl => ?_)
        have L28 : ∀ (N : Nat) (v4_7 : Int32) (H_7 : Heap) (locs_7 : List Loc), jSt (dC, dI) B base G0 G0 EX4_areUnitsJ s.heap 0 0 [(r0, 6, 8, .int pu), (r0, 6, 6, .ref jun)] [(jun, 146, 3000, ca 1, fu)] [] H_7 locs_7 → jKl [] s.heap H_7 → (0 ≤ v4_7.toInt ∧ v4_7.toInt ≤ a2.toInt ∧ a2.toInt = n3 ∧ jqTx T9 f3 a1.toInt (v4_7.toInt).toNat = 1) → (a2.toInt - v4_7.toInt : Int) < N → ∀ ls : Array Slot, lv_has ls 5 [(0, .ref r0), (1, .int a1), (2, .int a2), (3, .ref r3), (4, .int v4_7)] → W p l e R s m ([.ref r0, .int a1, .int a2, .ref r3] : List Value).toArray below meth c H_7 locs_7 0 0 Q (F0 m 28 ls []) := by
          intro N
          induction N with
          | zero => intro v4_7 H_7 locs_7 hh_7 hfl_7 hi_7 hm; exact absurd hm (by omega)
          | succ N L28 =>
            intro v4_7 H_7 locs_7 hh_7 hfl_7 hi_7 hm_7 ls hl
            obtain ⟨hi_7_0, hi_7_1, hi_7_2, hi_7_3⟩ := hi_7
            refine lv_iload hx hb dX4_areUnits_28 (lv_at hl 4 rfl) ?_
            refine lv_iload_n hx hb dX4_areUnits_30 rfl (lv_at hl 2 rfl) ?_
            refine lv_icmp_ge (tgt := 60) hx hb dX4_areUnits_31 (by decide) (fun c_8 => ?_) (fun c_8 => ?_)
            · skip
              have c_8' : v4_7.toInt ≥ a2.toInt := jb_ge (rfl) (rfl) c_8
              refine lv_iconst (v := 1) hx hb dX4_areUnits_60 (by decide) ?_
              rw [hQ]
              exact W.zret (v := 1) hx hb hr (jb_nz (Or.inr rfl)) (fun t ht hW => ⟨⟨1, (), rfl, ⟨(Or.inr rfl), by refine ⟨by omega, ?_⟩; unfold jqU; rw [if_pos (by omega), show n3 = v4_7.toInt.toNat by omega, hi_7_3]; exact hk1⟩, ⟨hh_7.rt (M1 := []) [] rfl ht, by rw [ht]; exact hfl_7⟩⟩, by rw [ht]; try exact hh_7.1.1, fun q h9 hq => by rw [ht]; try exact hh_7.1.2.1 q h9 hq⟩) hh_7.1.2.2 dX4_areUnits_61
            · skip
              have c_8' : v4_7.toInt < a2.toInt := jb_ge_n (rfl) (rfl) c_8
              refine lv_aload_n hx hb dX4_areUnits_34 rfl (lv_at hl 0 rfl) ?_
              refine j7_read hx hb hown hK (C := RX4) (T := TX4) (N := 12) rfl hly_6_6 hlk_30 (hh_7.at 1 rfl) dX4_areUnits_35 ?_
              refine lv_iload_n hx hb dX4_areUnits_38 rfl (lv_at hl 1 rfl) ?_
              refine lv_iload hx hb dX4_areUnits_39 (lv_at hl 4 rfl) ?_
              refine lv_iadd hx hb dX4_areUnits_41 ?_
              refine lv_topi (fun z_9 ez_9 => ?_)
              have hz_9 : z_9.toInt = a1.toInt + v4_7.toInt := by rw [ez_9]; exact jb_iadd2 (rfl) (rfl) (by omega)
              refine j7_ialdM hx hb hK hh_7 hB146 1 rfl (by decide) hg_jun (x := z_9.toInt) (rfl) (by omega) (j := 0) rfl dX4_areUnits_42 (fun z_10 ez_10 (hz_10 : True) => ?_)
              have hqz_10 : z_10.toInt = jSo fu ((a1.toInt + v4_7.toInt)) := by unfold jSo; rw [ez_10, show z_9.toInt = (a1.toInt + v4_7.toInt) by omega]
              refine lv_aload_n hx hb dX4_areUnits_43 rfl (lv_at hl 3 rfl) ?_
              refine lv_iload hx hb dX4_areUnits_44 (lv_at hl 4 rfl) ?_
              refine vp_callSi (W.runV (As := [.int v4_7]) (rest := [.int z_10]) ⟨hx, hb, hml, hown, hts⟩ (eJ0_charAt_5068e l dC dI ca base H_7 r3 n3 f3 v4_7) (cwV 1 hts (jgV (jWr_21 _ (List.mem_of_getElem? (i := 0) rfl)) (jWr_6 _ (List.mem_of_getElem? (i := 1) rfl)) (jWr_6 _ (List.mem_of_getElem? (i := 2) rfl)) (jWr_5 _ (List.mem_of_getElem? (i := 15) rfl)) (jWr_6 _ (List.mem_of_getElem? (i := 3) rfl))) rfl rfl rfl (by decide +kernel) ⟨by rw [← hR]; exact Nat.le_of_ble_eq_true rfl, by rw [← hR]; exact Nat.le_of_ble_eq_true rfl⟩) ⟨fun a U g mk q => by obtain ⟨q0, q1, q2, qK, q9⟩ := q; exact ⟨q0, q1, (q2.moved (Vm.Alike.refl U.vm)), jG.calling g mk a qK, q9⟩, jStr_recv hstr_r3 hh_7.1, fun U hU hW => ⟨rfl, hU, (hstrF_r3.moved hW.alike).kept hh_7.1.2.1, hG.step hW hU hh_7.1, ⟨by omega, by omega, by omega⟩⟩⟩ rfl rfl hl.1 rfl (lv_room (Nat.le_of_ble_eq_true rfl)) dX4_areUnits_46 ⟨Nat.zero_le _, Nat.zero_le _⟩) (fun r_11 hr_11 => ?_)
              refine lv_icmp_eq (tgt := 54) hx hb dX4_areUnits_49 (by decide) (fun c_12 => ?_) (fun c_12 => ?_)
              · skip
                have c_12' : z_10.toInt = r_11.toInt := jb_eq (rfl) (rfl) c_12
                obtain ⟨z_13, ez_13⟩ : ∃ y : Int32, y = v4_7 + 1 := ⟨_, rfl⟩
                refine lv_iinc (v := z_13) (lv' := [(4, .int z_13), (0, .ref r0), (1, .int a1), (2, .int a2), (3, .ref r3)]) hx hb dX4_areUnits_54 hl (k := 4) rfl (by rw [ez_13]; rfl) (by decide) rfl (fun ls hl => ?_)
                have hz_13 : z_13.toInt = v4_7.toInt + 1 := by rw [ez_13]; exact jb_iadd2 (rfl) (by decide) (by omega)
                refine lv_goto (tgt := 28) hx hb dX4_areUnits_57 (by decide) ?_
                exact L28 z_13 _ _ hh_7 (hfl_7) (by refine ⟨by omega, by omega, by omega, ?_⟩; rw [show (z_13).toInt.toNat = v4_7.toInt.toNat + 1 by omega]; exact jqTx_1 hi_7_3 (by rw [show a1.toInt + ((v4_7.toInt.toNat : Nat) : Int) = a1.toInt + v4_7.toInt by omega, hp0 _ (by omega) (by omega), ← hqz_10, ← hr_11]; omega)) (by omega) _ (lv_sub hl [1, 2, 3, 4, 0] rfl)
              · skip
                have c_12' : z_10.toInt ≠ r_11.toInt := jb_eq_n (rfl) (rfl) c_12
                refine lv_iconst (v := 0) hx hb dX4_areUnits_52 (by decide) ?_
                rw [hQ]
                exact W.zret (v := 0) hx hb hr (jb_nz (Or.inl rfl)) (fun t ht hW => ⟨⟨0, (), rfl, ⟨(Or.inl rfl), by refine ⟨by omega, ?_⟩; unfold jqU; rw [if_pos (by omega), jqTx_0 (m := v4_7.toInt.toNat) (by omega) (by rw [show a1.toInt + ((v4_7.toInt.toNat : Nat) : Int) = a1.toInt + v4_7.toInt by omega, hp0 _ (by omega) (by omega), ← hqz_10, ← hr_11]; omega)]; exact hk0⟩, ⟨hh_7.rt (M1 := []) [] rfl ht, by rw [ht]; exact hfl_7⟩⟩, by rw [ht]; try exact hh_7.1.1, fun q h9 hq => by rw [ht]; try exact hh_7.1.2.1 q h9 hq⟩) hh_7.1.2.2 dX4_areUnits_53
        exact L28 (a2.toInt - (0 : Int32).toInt : Int).toNat.succ 0 _ _ hh (hfl) (by refine ⟨by omega, by omega, by omega, ?_⟩; rw [hk0]; rfl) (by omega) _ (lv_sub hl [1, 2, 3, 4, 0] rfl)
      · skip
        have c_6' : z_4.toInt > z_5.toInt := jb_le_n (rfl) (rfl) c_6
        exact absurd c_6' (by omega)
set_option maxHeartbeats 4000000 in
set_option maxRecDepth 20000 in
theorem uX4_memberJ (l : Launch) (dC : Nat → ClassId) (dI : Nat → Nat → Nat) (ca : Nat → ClassId) (base : Nat) (B : jF) (hB : jBok B) (hAp : jAp (dC, dI)) (hB6 : ∀ n G a H, B 6 n G a H ↔ jOb (dC, dI) 6 12 (F6 n G) a H) (hB140 : ∀ n G a H, B 140 n G a H ↔ jAr (dC, dI) (ca 1) (fun j z => True) n a H) (hB141 : ∀ n G a H, B 141 n G a H ↔ jAr (dC, dI) (ca 1) (fun j z => True) n a H) (hB142 : ∀ n G a H, B 142 n G a H ↔ jAr (dC, dI) (ca 1) (fun j z => True) n a H) (hB143 : ∀ n G a H, B 143 n G a H ↔ jAr (dC, dI) (ca 1) (fun j z => True) n a H) (hB144 : ∀ n G a H, B 144 n G a H ↔ jAr (dC, dI) (ca 1) (fun j z => 0 ≤ z.toInt ∧ z.toInt ≤ 3000) n a H) (hB145 : ∀ n G a H, B 145 n G a H ↔ jAr (dC, dI) (ca 1) (fun j z => True) n a H) (hB146 : ∀ n G a H, B 146 n G a H ↔ jAr (dC, dI) (ca 1) (fun j z => True) n a H) (G0 : jT) (H0 : Heap) (r0 : Nat) (a1 : Int32) (r2 : Nat) (n2 : Nat) (f2 : Nat → Int32) (pv : Int32) (pu : Int32) (wk : Nat) (wi : Nat) (wz : Nat) (jnx : Nat) (jkf : Nat) (jks : Nat) (jun : Nat) (T9 : Nat → Int → Int) (fk : Nat → Int32) (fi : Nat → Int32) (fz : Nat → Int32) (fn : Nat → Int32) (fa : Nat → Int32) (fs : Nat → Int32) (fu : Nat → Int32) : Met l yX4_member (jw yX4_member cX4_member 6 (some .int)) ({ frames := 5, cells := 0, slots := 0, locals := 165 }) (va_Pc [.ref r0, .int a1, .ref r2] (fun U => U.heap = H0 ∧ jX B base G0 [] H0 ∧ jG dC dI ca base U ∧ jStrF base r2 n2 f2 U H0 ∧ G0 r0 = some (6, 0) ∧ G0 wk = some (140, 1502) ∧ G0 wi = some (141, 1502) ∧ G0 wz = some (142, 1502) ∧ G0 jnx = some (143, 1502) ∧ G0 jkf = some (144, 1502) ∧ G0 jks = some (145, 1502) ∧ G0 jun = some (146, 3000) ∧ jP (dC, dI) G0 H0 [(r0, 6, 7, .int pv), (r0, 6, 8, .int pu), (r0, 6, 0, .ref wk), (r0, 6, 1, .ref wi), (r0, 6, 2, .ref wz), (r0, 6, 3, .ref jnx), (r0, 6, 4, .ref jkf), (r0, 6, 5, .ref jks), (r0, 6, 6, .ref jun)] ∧ jMc (dC, dI) G0 H0 [(wk, 140, 1502, ca 1, fk), (wi, 141, 1502, ca 1, fi), (wz, 142, 1502, ca 1, fz), (jnx, 143, 1502, ca 1, fn), (jkf, 144, 1502, ca 1, fa), (jks, 145, 1502, ca 1, fs), (jun, 146, 3000, ca 1, fu)] ∧ 0 ≤ pv.toInt ∧ pv.toInt ≤ 1502 ∧ 0 ≤ pu.toInt ∧ pu.toInt ≤ 3000 ∧ jjTC T9 pv.toInt pu.toInt fk fi fz fn fa fs fu ∧ n2 ≤ 1000 ∧ jjCo T9 0 pv.toInt ∧ jqR fk fi fz fa fs pv.toInt pu.toInt)) (va_Qi (S := Unit) (fun r u => (-1 ≤ r.toInt ∧ r.toInt ≤ 1501 ∧ (r.toInt < 0 ∨ (r.toInt < pv.toInt ∧ jSo fs r.toInt = n2 ∧ 0 ≤ a1.toInt ∧ a1.toInt < pv.toInt ∧ jSo fk a1.toInt = 1)) ∧ r.toInt = jqM T9 pv.toInt f2 n2 a1.toInt)) (fun u t => (jRt (dC, dI) B base G0 EX4_memberJ H0 [] t.heap) ∧ jKl [] H0 t.heap) (jA base)) 0 0 (jA base) := by
  refine Met.ofW (cc := cX4_member) (maxL := 6) (ret := (some .int)) (by decide) rfl ?_
  intro p e s m args below meth c s₁ Bd hml hv
  obtain ⟨rfl, hH0, hX, hG, hstrF_r2, hg_r0, hg_wk, hg_wi, hg_wz, hg_jnx, hg_jkf, hg_jks, hg_jun, hP0, hM0, hp0, hp1, hp2, hp3, hp4, hp5, hp6, hp7⟩ := hv
  have hK := hG.1
  have hx := Bd.exec
  have hb := Bd.bytes
  have hr := Bd.returns
  have hts := atoms_spec (ws := (jw yX4_member cX4_member 6 (some .int))) Bd.pre
  have htw : ∀ w ∈ jWl, w.before _ s = true := fun w h => hts w (List.mem_cons_of_mem _ h)
  have hown : s.vm.findClass RX4 = some m.cls := findClass_of_methodNamed Bd.named
  have hlocks := Bd.notSynchronized
  obtain ⟨Q, hQ⟩ : ∃ Q, Q = MQ below (va_Qi (S := Unit) (fun r u => (-1 ≤ r.toInt ∧ r.toInt ≤ 1501 ∧ (r.toInt < 0 ∨ (r.toInt < pv.toInt ∧ jSo fs r.toInt = n2 ∧ 0 ≤ a1.toInt ∧ a1.toInt < pv.toInt ∧ jSo fk a1.toInt = 1)) ∧ r.toInt = jqM T9 pv.toInt f2 n2 a1.toInt)) (fun u t => (jRt (dC, dI) B base G0 EX4_memberJ H0 [] t.heap) ∧ jKl [] H0 t.heap) (jA base)) ([.ref r0, .int a1, .ref r2] : List Value).toArray s 0 0 (jA base) := ⟨_, rfl⟩
  rw [← hQ]
  have hl := lv_entry ([.ref r0, .int a1, .ref r2]) (n := 6) (Nat.le_of_ble_eq_true rfl)
  rw [lg_entry_eq]
  generalize (lg_sl ([.ref r0, .int a1, .ref r2]) ++ List.replicate (6 - (lg_sl ([.ref r0, .int a1, .ref r2])).length) Slot.unset).toArray = ls at hl ⊢
  have hstr_r2 := hstrF_r2.str
  have hl : lv_has ls 6 [(0, .ref r0), (1, .int a1), (2, .ref r2)] := hl
  generalize hR : (headSpec (jw yX4_member cX4_member 6 (some .int)) ({ frames := 5, cells := 0, slots := 0, locals := 165 })).room = R
  subst hH0
  have hh : jSt (dC, dI) B base G0 G0 EX4_memberJ s.heap 0 0 [(r0, 6, 7, .int pv), (r0, 6, 8, .int pu), (r0, 6, 0, .ref wk), (r0, 6, 1, .ref wi), (r0, 6, 2, .ref wz), (r0, 6, 3, .ref jnx), (r0, 6, 4, .ref jkf), (r0, 6, 5, .ref jks), (r0, 6, 6, .ref jun)] [(wk, 140, 1502, ca 1, fk), (wi, 141, 1502, ca 1, fi), (wz, 142, 1502, ca 1, fz), (jnx, 143, 1502, ca 1, fn), (jkf, 144, 1502, ca 1, fa), (jks, 145, 1502, ca 1, fs), (jun, 146, 3000, ca 1, fu)] [] s.heap [] := jSt.start hX hP0 hM0 jIs.nil
  clear hX hP0
  have hkm1 : ((-1) : Int32).toInt = (-1) := by decide
  have hk0 : (0 : Int32).toInt = 0 := by decide
  have hk1 : (1 : Int32).toInt = 1 := by decide
  have hly_6_1 := htw (u_lay RX4 TX4 1) (jWc_wsX40 _ (u_in_lay (by decide)))
  have hly_6_2 := htw (u_lay RX4 TX4 2) (jWc_wsX40 _ (u_in_lay (by decide)))
  have hly_6_3 := htw (u_lay RX4 TX4 3) (jWc_wsX40 _ (u_in_lay (by decide)))
  have hly_6_4 := htw (u_lay RX4 TX4 4) (jWc_wsX40 _ (u_in_lay (by decide)))
  have hly_6_5 := htw (u_lay RX4 TX4 5) (jWc_wsX40 _ (u_in_lay (by decide)))
  have hly_6_7 := htw (u_lay RX4 TX4 7) (jWc_wsX40 _ (u_in_lay (by decide)))
  have hlk_15 := (htw (.fieldLink RX4 15 "ProofServer$Json" "firsts" "[I") (jWr_3 _ (List.mem_of_getElem? (i := 22) rfl)))
  have hlk_18 := (htw (.fieldLink RX4 18 "ProofServer$Json" "sizes" "[I") (jWr_3 _ (List.mem_of_getElem? (i := 23) rfl)))
  have hlk_50 := (htw (.fieldLink RX4 50 "ProofServer$Json" "values" "I") (jWr_19 _ (List.mem_of_getElem? (i := 13) rfl)))
  have hlk_24 := (htw (.fieldLink RX4 24 "ProofServer$Json" "keyFirsts" "[I") (jWr_4 _ (List.mem_of_getElem? (i := 1) rfl)))
  have hlk_27 := (htw (.fieldLink RX4 27 "ProofServer$Json" "keySizes" "[I") (jWr_4 _ (List.mem_of_getElem? (i := 2) rfl)))
  have hlk_21 := (htw (.fieldLink RX4 21 "ProofServer$Json" "nexts" "[I") (jWr_4 _ (List.mem_of_getElem? (i := 0) rfl)))
  have hrg_a1 := jb_rng a1
  have hfl : jKl [] s.heap s.heap := jKl.rf
  refine lv_aload_n hx hb dX4_member_0 rfl (lv_at hl 0 rfl) ?_
  refine lv_iload_n hx hb dX4_member_1 rfl (lv_at hl 1 rfl) ?_
  refine va_calli (A0 := jA base) (H0 := s.heap) (va_runV (As := [.int a1]) (rest := []) ⟨hx, hb, hml, hown, hts⟩ (uX4_kindOfJ l dC dI ca base B hB hAp hB6 hB140 G0 s.heap r0 a1 pv pu wk wi wz jnx jkf jks jun T9 fk fi fz fn fa fs fu) (cwV 1 hts (jgV (jWr_23 _ (List.mem_of_getElem? (i := 14) rfl)) (jWr_23 _ (List.mem_of_getElem? (i := 15) rfl)) (jWr_23 _ (List.mem_of_getElem? (i := 16) rfl)) (jWr_1 _ (List.mem_of_getElem? (i := 22) rfl)) (jWr_23 _ (List.mem_of_getElem? (i := 17) rfl))) rfl rfl rfl (by decide +kernel) ⟨by rw [← hR]; exact Nat.le_of_ble_eq_true rfl, by rw [← hR]; exact Nat.le_of_ble_eq_true rfl⟩) ⟨fun a U g mk q => by obtain ⟨q0, q1, q2, qK, q10, q11, q12, q13, q14, q15, q16, q17, q18, q19, q20⟩ := q; exact ⟨q0, q1, q2, jG.calling g mk a qK, q10, q11, q12, q13, q14, q15, q16, q17, q18, q19, q20⟩, hh.recv (C := RX4) (T := TX4) (N := 12) hB6 rfl (by decide) hg_r0 hK, fun U hU hW => ⟨rfl, hU, hh.2.1, hG.step hW hU hh.1, hg_r0, hg_wk, hg_wi, hg_wz, hg_jnx, hg_jkf, hg_jks, hg_jun, (hh.2.2.1.sub (L1 := [(r0, 6, 7, .int pv), (r0, 6, 8, .int pu), (r0, 6, 0, .ref wk), (r0, 6, 1, .ref wi), (r0, 6, 2, .ref wz), (r0, 6, 3, .ref jnx), (r0, 6, 4, .ref jkf), (r0, 6, 5, .ref jks), (r0, 6, 6, .ref jun)]) [0, 1, 2, 3, 4, 5, 6, 7, 8] rfl), (hh.2.2.2.2.2.2.2.1.sub (L1 := [(wk, 140, 1502, ca 1, fk), (wi, 141, 1502, ca 1, fi), (wz, 142, 1502, ca 1, fz), (jnx, 143, 1502, ca 1, fn), (jkf, 144, 1502, ca 1, fa), (jks, 145, 1502, ca 1, fs), (jun, 146, 3000, ca 1, fu)]) [0, 1, 2, 3, 4, 5, 6] rfl), by first | omega | (refine ⟨?_, ?_, ?_, ?_, ?_⟩ <;> (first | omega | rfl | assumption | decide | exact Or.inl rfl | exact Or.inr rfl | (simp only; omega)))⟩⟩ rfl rfl hl.1 rfl (lv_room (Nat.le_of_ble_eq_true rfl)) dX4_member_2 ⟨Nat.zero_le _, Nat.zero_le _⟩) hh.1 (fun q _ h => h) (fun q h => h) (fun r_2 u_1 t_1 H_1 locs_1 ht_1 hvm_1 hr_2 hb_1 hz_1 hk_1 hS_1 => ?_)
  rw [ht_1] at hb_1
  obtain ⟨hb_1, hbF_1⟩ := hb_1
  obtain ⟨hb_11, hb_12, hb_13, hb_14, hb_15⟩ := hb_1
  have hh_1 : jSt (dC, dI) B base G0 G0 EX4_memberJ s.heap 0 0 [(r0, 6, 7, .int pv), (r0, 6, 8, .int pu), (r0, 6, 0, .ref wk), (r0, 6, 1, .ref wi), (r0, 6, 2, .ref wz), (r0, 6, 3, .ref jnx), (r0, 6, 4, .ref jkf), (r0, 6, 5, .ref jks), (r0, 6, 6, .ref jun)] [(wk, 140, 1502, ca 1, fk), (wi, 141, 1502, ca 1, fi), (wz, 142, 1502, ca 1, fz), (jnx, 143, 1502, ca 1, fn), (jkf, 144, 1502, ca 1, fa), (jks, 145, 1502, ca 1, fs), (jun, 146, 3000, ca 1, fu)] [] H_1 locs_1 := ((hh.call hb_11 hb_12 hb_13 hb_14 hS_1 rfl (L1 := [(r0, 6, 7, .int pv), (r0, 6, 8, .int pu), (r0, 6, 0, .ref wk), (r0, 6, 1, .ref wi), (r0, 6, 2, .ref wz), (r0, 6, 3, .ref jnx), (r0, 6, 4, .ref jkf), (r0, 6, 5, .ref jks), (r0, 6, 6, .ref jun)]) [0, 1, 2, 3, 4, 5, 6, 7, 8] rfl rfl (M1 := [(wk, 140, 1502, ca 1, fk), (wi, 141, 1502, ca 1, fi), (wz, 142, 1502, ca 1, fz), (jnx, 143, 1502, ca 1, fn), (jkf, 144, 1502, ca 1, fa), (jks, 145, 1502, ca 1, fs), (jun, 146, 3000, ca 1, fu)]) [0, 1, 2, 3, 4, 5, 6] rfl rfl (I1 := []) [] rfl rfl).more hb_15)
  clear hh ht_1 hvm_1 hz_1 hk_1 hS_1 hb_11 hb_12 hb_13 hb_14 hb_15
  have hfl_3 := hfl.tr hbF_1 (by first | exact fun q h => h | (intro q h9; simp at h9 ⊢; exact h9) | (intro q h9; simp at h9))
  obtain ⟨hr_2_0, hr_2_1⟩ := hr_2
  refine lv_iconst (v := 1) hx hb dX4_member_5 (by decide) ?_
  refine lv_icmp_eq (tgt := 11) hx hb dX4_member_6 (by decide) (fun c_4 => ?_) (fun c_4 => ?_)
  · skip
    have c_4' : r_2.toInt = 1 := jb_eq (rfl) ((by decide)) c_4
    first | (have hr_2_0q := hr_2_0.resolve_left (by omega); clear hr_2_0) | (have hr_2_0q := hr_2_0.resolve_right (by omega); clear hr_2_0) | try clear hr_2_0
    have hka := jqK.p (T := T9) (v := pv.toInt) (i := a1.toInt) (by rw [← hr_2_1]; omega)
    obtain ⟨kk, hkk, hch⟩ := hp6 a1.toInt (by omega) hka.2.1 (Or.inl (by rw [← hka.2.2, ← hr_2_1]; omega))
    have hT3 : T9 3 a1.toInt = jSo fz a1.toInt := hp4.2.2.1 _ hka.1 hka.2.1
    have hT4 : jSo fz a1.toInt ≤ 2147483647 := (jb_rng (fz a1.toInt.toNat)).2
    refine lv_iconst (v := (-1)) hx hb dX4_member_11 (by decide) ?_
    refine lv_istore_n (lv' := [(3, .int (-1)), (0, .ref r0), (1, .int a1), (2, .ref r2)]) hx hb dX4_member_12 rfl hl (by decide) rfl (fun ls hl => ?_)
    refine lv_aload_n hx hb dX4_member_13 rfl (lv_at hl 1 rfl) ?_
    refine j7_read hx hb hown hK (C := RX4) (T := TX4) (N := 12) rfl hly_6_1 hlk_15 (hh_1.at 3 rfl) dX4_member_14 ?_
    refine lv_iload_n hx hb dX4_member_17 rfl (lv_at hl 2 rfl) ?_
    refine j7_ialdM hx hb hK hh_1 hB141 1 rfl (by decide) hg_wi (x := a1.toInt) (rfl) (by omega) (j := 1) rfl dX4_member_18 (fun z_5 ez_5 (hz_5 : True) => ?_)
    have hqz_5 : z_5.toInt = jSo fi (a1.toInt) := by unfold jSo; rw [ez_5]
    refine lv_istore (lv' := [(4, .int z_5), (3, .int (-1)), (0, .ref r0), (1, .int a1), (2, .ref r2)]) hx hb dX4_member_19 hl (by decide) rfl (fun ls hl => ?_)
    refine lv_iconst (v := 0) hx hb dX4_member_21 (by decide) ?_
    refine lv_istore (lv' := [(5, .int 0), (4, .int z_5), (3, .int (-1)), (0, .ref r0), (1, .int a1), (2, .ref r2)]) hx hb dX4_member_22 hl (by decide) rfl (fun ls hl => ?_)
    have L24 : ∀ (N : Nat) (v3_6 : Int32) (v4_6 : Int32) (v5_6 : Int32) (H_6 : Heap) (locs_6 : List Loc), jSt (dC, dI) B base G0 G0 EX4_memberJ s.heap 0 0 [(r0, 6, 7, .int pv), (r0, 6, 8, .int pu), (r0, 6, 0, .ref wk), (r0, 6, 1, .ref wi), (r0, 6, 2, .ref wz), (r0, 6, 3, .ref jnx), (r0, 6, 4, .ref jkf), (r0, 6, 5, .ref jks), (r0, 6, 6, .ref jun)] [(wk, 140, 1502, ca 1, fk), (wi, 141, 1502, ca 1, fi), (wz, 142, 1502, ca 1, fz), (jnx, 143, 1502, ca 1, fn), (jkf, 144, 1502, ca 1, fa), (jks, 145, 1502, ca 1, fs), (jun, 146, 3000, ca 1, fu)] [] H_6 locs_6 → jKl [] s.heap H_6 → (0 ≤ v5_6.toInt ∧ v5_6.toInt ≤ T9 3 a1.toInt ∧ jjCh T9 pv.toInt a1.toInt (T9 3 a1.toInt - v5_6.toInt).toNat v4_6.toInt ∧ jqMl T9 f2 n2 (T9 3 a1.toInt - v5_6.toInt).toNat v4_6.toInt v3_6.toInt = jqMl T9 f2 n2 (T9 3 a1.toInt).toNat (T9 2 a1.toInt) (-1) ∧ -1 ≤ v3_6.toInt ∧ (v3_6.toInt < 0 ∨ (v3_6.toInt < pv.toInt ∧ jSo fs v3_6.toInt = n2))) → (T9 3 a1.toInt - v5_6.toInt : Int) < N → ∀ ls : Array Slot, lv_has ls 6 [(0, .ref r0), (1, .int a1), (2, .ref r2), (3, .int v3_6), (4, .int v4_6), (5, .int v5_6)] → W p l e R s m ([.ref r0, .int a1, .ref r2] : List Value).toArray below meth c H_6 locs_6 0 0 Q (F0 m 24 ls []) := by
      intro N
      induction N with
      | zero => intro v3_6 v4_6 v5_6 H_6 locs_6 hh_6 hfl_6 hi_6 hm; exact absurd hm (by omega)
      | succ N L24 =>
        intro v3_6 v4_6 v5_6 H_6 locs_6 hh_6 hfl_6 hi_6 hm_6 ls hl
        obtain ⟨hi_6_0, hi_6_1, hi_6_2, hi_6_3, hi_6_4, hi_6_5⟩ := hi_6
        refine lv_iload hx hb dX4_member_24 (lv_at hl 5 rfl) ?_
        refine lv_aload_n hx hb dX4_member_26 rfl (lv_at hl 0 rfl) ?_
        refine j7_read hx hb hown hK (C := RX4) (T := TX4) (N := 12) rfl hly_6_2 hlk_18 (hh_6.at 4 rfl) dX4_member_27 ?_
        refine lv_iload_n hx hb dX4_member_30 rfl (lv_at hl 1 rfl) ?_
        refine j7_ialdM hx hb hK hh_6 hB142 1 rfl (by decide) hg_wz (x := a1.toInt) (rfl) (by omega) (j := 2) rfl dX4_member_31 (fun z_7 ez_7 (hz_7 : True) => ?_)
        have hqz_7 : z_7.toInt = jSo fz (a1.toInt) := by unfold jSo; rw [ez_7]
        refine lv_icmp_ge (tgt := 89) hx hb dX4_member_32 (by decide) (fun c_8 => ?_) (fun c_8 => ?_)
        · skip
          have c_8' : v5_6.toInt ≥ z_7.toInt := jb_ge (rfl) (rfl) c_8
          refine lv_iload_n hx hb dX4_member_89 rfl (lv_at hl 3 rfl) ?_
          rw [hQ]
          exact W.iret (v := v3_6) hx hb hr (fun t ht hW => ⟨⟨v3_6, (), rfl, by refine ⟨by omega, by omega, ?_, ?_⟩; (rcases hi_6_5 with h9 | ⟨h9, h8⟩; exact Or.inl h9; exact Or.inr ⟨h9, h8, hka.1, hka.2.1, by rw [← hp4.1 _ hka.1 hka.2.1, ← hka.2.2, ← hr_2_1]; omega⟩); unfold jqM; rw [if_pos (by rw [← hr_2_1]; omega)]; have h9 := hi_6_3; rw [show (T9 3 a1.toInt - v5_6.toInt).toNat = 0 by omega] at h9; exact h9, ⟨hh_6.rt (M1 := []) [] rfl ht, by rw [ht]; exact hfl_6⟩⟩, by rw [ht]; try exact hh_6.1.1, fun q h9 hq => by rw [ht]; try exact hh_6.1.2.1 q h9 hq⟩) hh_6.1.2.2 dX4_member_90
        · skip
          have c_8' : v5_6.toInt < z_7.toInt := jb_ge_n (rfl) (rfl) c_8
          have hc9 := jjCh.h hi_6_2 (by omega)
          refine lv_iload hx hb dX4_member_35 (lv_at hl 4 rfl) ?_
          refine lv_if_lt (tgt := 89) hx hb dX4_member_37 (by decide) (fun c_9 => ?_) (fun c_9 => ?_)
          · skip
            have c_9' : v4_6.toInt < 0 := jb_lt (rfl) ((by decide)) c_9
            exact absurd c_9' (by omega)
          · skip
            have c_9' : v4_6.toInt ≥ 0 := jb_lt_n (rfl) ((by decide)) c_9
            refine lv_iload hx hb dX4_member_40 (lv_at hl 4 rfl) ?_
            refine lv_aload_n hx hb dX4_member_42 rfl (lv_at hl 0 rfl) ?_
            refine j7_read hx hb hown hK (C := RX4) (T := TX4) (N := 12) rfl hly_6_7 hlk_50 (hh_6.at 0 rfl) dX4_member_43 ?_
            refine lv_icmp_ge (tgt := 89) hx hb dX4_member_46 (by decide) (fun c_10 => ?_) (fun c_10 => ?_)
            · skip
              have c_10' : v4_6.toInt ≥ pv.toInt := jb_ge (rfl) (rfl) c_10
              exact absurd c_10' (by omega)
            · skip
              have c_10' : v4_6.toInt < pv.toInt := jb_ge_n (rfl) (rfl) c_10
              have hr9 := (hp7 v4_6.toInt (by omega) (by omega)).1
              refine lv_aload_n hx hb dX4_member_49 rfl (lv_at hl 0 rfl) ?_
              refine lv_aload_n hx hb dX4_member_50 rfl (lv_at hl 0 rfl) ?_
              refine j7_read hx hb hown hK (C := RX4) (T := TX4) (N := 12) rfl hly_6_4 hlk_24 (hh_6.at 6 rfl) dX4_member_51 ?_
              refine lv_iload hx hb dX4_member_54 (lv_at hl 4 rfl) ?_
              refine j7_ialdM hx hb hK hh_6 hB144 1 rfl (by decide) hg_jkf (x := v4_6.toInt) (rfl) (by omega) (j := 4) rfl dX4_member_56 (fun z_11 ez_11 (hz_11 : 0 ≤ z_11.toInt ∧ z_11.toInt ≤ 3000) => ?_)
              have hqz_11 : z_11.toInt = jSo fa (v4_6.toInt) := by unfold jSo; rw [ez_11]
              refine lv_aload_n hx hb dX4_member_57 rfl (lv_at hl 0 rfl) ?_
              refine j7_read hx hb hown hK (C := RX4) (T := TX4) (N := 12) rfl hly_6_5 hlk_27 (hh_6.at 7 rfl) dX4_member_58 ?_
              refine lv_iload hx hb dX4_member_61 (lv_at hl 4 rfl) ?_
              refine j7_ialdM hx hb hK hh_6 hB145 1 rfl (by decide) hg_jks (x := v4_6.toInt) (rfl) (by omega) (j := 5) rfl dX4_member_63 (fun z_12 ez_12 (hz_12 : True) => ?_)
              have hqz_12 : z_12.toInt = jSo fs (v4_6.toInt) := by unfold jSo; rw [ez_12]
              refine lv_aload_n hx hb dX4_member_64 rfl (lv_at hl 2 rfl) ?_
              refine va_calli (A0 := jA base) (H0 := s.heap) (va_runV (As := [.int z_11, .int z_12, .ref r2]) (rest := []) ⟨hx, hb, hml, hown, hts⟩ (uX4_areUnitsJ l dC dI ca base B hB hAp hB6 hB146 G0 H_6 r0 z_11 z_12 r2 n2 f2 pu jun T9 fu) (cwV 3 hts (jgV (jWr_23 _ (List.mem_of_getElem? (i := 18) rfl)) (jWr_23 _ (List.mem_of_getElem? (i := 19) rfl)) (jWr_23 _ (List.mem_of_getElem? (i := 20) rfl)) (jWr_1 _ (List.mem_of_getElem? (i := 22) rfl)) (jWr_23 _ (List.mem_of_getElem? (i := 21) rfl))) rfl rfl rfl (by decide +kernel) ⟨by rw [← hR]; exact Nat.le_of_ble_eq_true rfl, by rw [← hR]; exact Nat.le_of_ble_eq_true rfl⟩) ⟨fun a U g mk q => by obtain ⟨q0, q1, q2, qK, q10, q11, q12, q13, q14, q15⟩ := q; exact ⟨q0, q1, q2, jG.calling g mk a qK, (q10.moved (Vm.Alike.refl U.vm)), q11, q12, q13, q14, q15⟩, hh_6.recv (C := RX4) (T := TX4) (N := 12) hB6 rfl (by decide) hg_r0 hK, fun U hU hW => ⟨rfl, hU, hh_6.2.1, hG.step hW hU hh_6.1, (hstrF_r2.moved hW.alike).kept hh_6.1.2.1, hg_r0, hg_jun, (hh_6.2.2.1.sub (L1 := [(r0, 6, 8, .int pu), (r0, 6, 6, .ref jun)]) [1, 8] rfl), (hh_6.2.2.2.2.2.2.2.1.sub (L1 := [(jun, 146, 3000, ca 1, fu)]) [6] rfl), ⟨(by first | assumption | exact hp4.2.2.2.2.2.2 | omega), (by first | omega | rfl | assumption | exact hp4.2.2.2.2.2.2), (by first | omega | rfl | assumption | exact hp4.2.2.2.2.2.2), (by first | omega | rfl | assumption | exact hp4.2.2.2.2.2.2), (by first | omega | rfl | assumption | exact hp4.2.2.2.2.2.2), (by first | omega | rfl | assumption | exact hp4.2.2.2.2.2.2)⟩⟩⟩ rfl rfl hl.1 rfl (lv_room (Nat.le_of_ble_eq_true rfl)) dX4_member_65 ⟨Nat.zero_le _, Nat.zero_le _⟩) hh_6.1 (fun q _ h => h) (fun q h => h) (fun r_14 u_13 t_13 H_13 locs_13 ht_13 hvm_13 hr_14 hb_13 hz_13 hk_13 hS_13 => ?_)
              rw [ht_13] at hb_13
              obtain ⟨hb_13, hbF_13⟩ := hb_13
              obtain ⟨hb_131, hb_132, hb_133, hb_134, hb_135⟩ := hb_13
              have hh_13 : jSt (dC, dI) B base G0 G0 EX4_memberJ s.heap 0 0 [(r0, 6, 7, .int pv), (r0, 6, 8, .int pu), (r0, 6, 0, .ref wk), (r0, 6, 1, .ref wi), (r0, 6, 2, .ref wz), (r0, 6, 3, .ref jnx), (r0, 6, 4, .ref jkf), (r0, 6, 5, .ref jks), (r0, 6, 6, .ref jun)] [(wk, 140, 1502, ca 1, fk), (wi, 141, 1502, ca 1, fi), (wz, 142, 1502, ca 1, fz), (jnx, 143, 1502, ca 1, fn), (jkf, 144, 1502, ca 1, fa), (jks, 145, 1502, ca 1, fs), (jun, 146, 3000, ca 1, fu)] [] H_13 locs_13 := ((hh_6.call hb_131 hb_132 hb_133 hb_134 hS_13 rfl (L1 := [(r0, 6, 7, .int pv), (r0, 6, 8, .int pu), (r0, 6, 0, .ref wk), (r0, 6, 1, .ref wi), (r0, 6, 2, .ref wz), (r0, 6, 3, .ref jnx), (r0, 6, 4, .ref jkf), (r0, 6, 5, .ref jks), (r0, 6, 6, .ref jun)]) [0, 1, 2, 3, 4, 5, 6, 7, 8] rfl rfl (M1 := [(wk, 140, 1502, ca 1, fk), (wi, 141, 1502, ca 1, fi), (wz, 142, 1502, ca 1, fz), (jnx, 143, 1502, ca 1, fn), (jkf, 144, 1502, ca 1, fa), (jks, 145, 1502, ca 1, fs), (jun, 146, 3000, ca 1, fu)]) [0, 1, 2, 3, 4, 5, 6] rfl rfl (I1 := []) [] rfl rfl).more hb_135)
              clear hh_6 ht_13 hvm_13 hz_13 hk_13 hS_13 hb_131 hb_132 hb_133 hb_134 hb_135
              have hfl_15 := hfl_6.tr hbF_13 (by first | exact fun q h => h | (intro q h9; simp at h9 ⊢; exact h9) | (intro q h9; simp at h9))
              obtain ⟨hr_14b, hr_14p⟩ := hr_14
              obtain ⟨hr_14p_0, hr_14p_1⟩ := hr_14p
              have hu9 : r_14.toInt = jqU T9 f2 n2 (T9 5 v4_6.toInt) (T9 6 v4_6.toInt) := hr_14p_1.trans (by rw [hp4.2.2.2.2.1 _ (by omega) (by omega), hp4.2.2.2.2.2.1 _ (by omega) (by omega), ← hqz_11, ← hqz_12])
              have hr_14' := jb_01 hr_14b
              refine lv_if_eq (tgt := 74) hx hb dX4_member_68 (by decide) (fun c_16 => ?_) (fun c_16 => ?_)
              · skip
                have c_16' : r_14.toInt = 0 := jb_eq (rfl) ((by decide)) c_16
                first | (have hr_14p_0q := hr_14p_0.resolve_left (by omega); clear hr_14p_0) | (have hr_14p_0q := hr_14p_0.resolve_right (by omega); clear hr_14p_0) | try clear hr_14p_0
                refine lv_aload_n hx hb dX4_member_74 rfl (lv_at hl 0 rfl) ?_
                refine j7_read hx hb hown hK (C := RX4) (T := TX4) (N := 12) rfl hly_6_3 hlk_21 (hh_13.at 5 rfl) dX4_member_75 ?_
                refine lv_iload hx hb dX4_member_78 (lv_at hl 4 rfl) ?_
                refine j7_ialdM hx hb hK hh_13 hB143 1 rfl (by decide) hg_jnx (x := v4_6.toInt) (rfl) (by omega) (j := 3) rfl dX4_member_80 (fun z_17 ez_17 (hz_17 : True) => ?_)
                have hqz_17 : z_17.toInt = jSo fn (v4_6.toInt) := by unfold jSo; rw [ez_17]
                refine lv_istore (lv' := [(4, .int z_17), (0, .ref r0), (1, .int a1), (2, .ref r2), (3, .int v3_6), (5, .int v5_6)]) hx hb dX4_member_81 hl (by decide) rfl (fun ls hl => ?_)
                obtain ⟨z_18, ez_18⟩ : ∃ y : Int32, y = v5_6 + 1 := ⟨_, rfl⟩
                refine lv_iinc (v := z_18) (lv' := [(5, .int z_18), (4, .int z_17), (0, .ref r0), (1, .int a1), (2, .ref r2), (3, .int v3_6)]) hx hb dX4_member_83 hl (k := 5) rfl (by rw [ez_18]; rfl) (by decide) rfl (fun ls hl => ?_)
                have hz_18 : z_18.toInt = v5_6.toInt + 1 := by rw [ez_18]; exact jb_iadd2 (rfl) (by decide) (by omega)
                refine lv_goto (tgt := 24) hx hb dX4_member_86 (by decide) ?_
                exact L24 v3_6 z_17 z_18 _ _ hh_13 (hfl_15) (by refine ⟨by omega, by omega, ?_, ?_, by omega, by first | omega | exact Or.inr ⟨by omega, by have h9 := hr_14p_0; have h8 := hqz_12; omega⟩⟩; (rw [show (T9 3 a1.toInt - (z_18).toInt).toNat = (T9 3 a1.toInt - v5_6.toInt).toNat - 1 by omega, hqz_17, ← hp4.2.2.2.1 _ (by omega) (by omega)]; exact hc9.2.2.2); rw [show (T9 3 a1.toInt - (z_18).toInt).toNat = (T9 3 a1.toInt - v5_6.toInt).toNat - 1 by omega]; exact (jqMl_s (by omega) (hqz_17.trans (hp4.2.2.2.1 _ (by omega) (by omega)).symm) (Or.inr ⟨by rw [← hu9]; omega, by omega⟩)).trans hi_6_3) (by omega) _ (lv_sub hl [2, 3, 4, 5, 1, 0] rfl)
              · skip
                have c_16' : r_14.toInt ≠ 0 := jb_eq_n (rfl) ((by decide)) c_16
                first | (have hr_14p_0q := hr_14p_0.resolve_left (by omega); clear hr_14p_0) | (have hr_14p_0q := hr_14p_0.resolve_right (by omega); clear hr_14p_0) | try clear hr_14p_0
                refine lv_iload hx hb dX4_member_71 (lv_at hl 4 rfl) ?_
                refine lv_istore_n (lv' := [(3, .int v4_6), (0, .ref r0), (1, .int a1), (2, .ref r2), (4, .int v4_6), (5, .int v5_6)]) hx hb dX4_member_73 rfl hl (by decide) rfl (fun ls hl => ?_)
                refine lv_aload_n hx hb dX4_member_74 rfl (lv_at hl 1 rfl) ?_
                refine j7_read hx hb hown hK (C := RX4) (T := TX4) (N := 12) rfl hly_6_3 hlk_21 (hh_13.at 5 rfl) dX4_member_75 ?_
                refine lv_iload hx hb dX4_member_78 (lv_at hl 4 rfl) ?_
                refine j7_ialdM hx hb hK hh_13 hB143 1 rfl (by decide) hg_jnx (x := v4_6.toInt) (rfl) (by omega) (j := 3) rfl dX4_member_80 (fun z_19 ez_19 (hz_19 : True) => ?_)
                have hqz_19 : z_19.toInt = jSo fn (v4_6.toInt) := by unfold jSo; rw [ez_19]
                refine lv_istore (lv' := [(4, .int z_19), (3, .int v4_6), (0, .ref r0), (1, .int a1), (2, .ref r2), (5, .int v5_6)]) hx hb dX4_member_81 hl (by decide) rfl (fun ls hl => ?_)
                obtain ⟨z_20, ez_20⟩ : ∃ y : Int32, y = v5_6 + 1 := ⟨_, rfl⟩
                refine lv_iinc (v := z_20) (lv' := [(5, .int z_20), (4, .int z_19), (3, .int v4_6), (0, .ref r0), (1, .int a1), (2, .ref r2)]) hx hb dX4_member_83 hl (k := 5) rfl (by rw [ez_20]; rfl) (by decide) rfl (fun ls hl => ?_)
                have hz_20 : z_20.toInt = v5_6.toInt + 1 := by rw [ez_20]; exact jb_iadd2 (rfl) (by decide) (by omega)
                refine lv_goto (tgt := 24) hx hb dX4_member_86 (by decide) ?_
                exact L24 v4_6 z_19 z_20 _ _ hh_13 (hfl_15) (by refine ⟨by omega, by omega, ?_, ?_, by omega, by first | omega | exact Or.inr ⟨by omega, by have h9 := hr_14p_0; have h8 := hqz_12; omega⟩⟩; (rw [show (T9 3 a1.toInt - (z_20).toInt).toNat = (T9 3 a1.toInt - v5_6.toInt).toNat - 1 by omega, hqz_19, ← hp4.2.2.2.1 _ (by omega) (by omega)]; exact hc9.2.2.2); rw [show (T9 3 a1.toInt - (z_20).toInt).toNat = (T9 3 a1.toInt - v5_6.toInt).toNat - 1 by omega]; exact (jqMl_s (by omega) (hqz_19.trans (hp4.2.2.2.1 _ (by omega) (by omega)).symm) (Or.inl ⟨by rw [← hu9]; omega, by omega⟩)).trans hi_6_3) (by omega) _ (lv_sub hl [3, 4, 5, 2, 1, 0] rfl)
    exact L24 (T9 3 a1.toInt - (0 : Int32).toInt : Int).toNat.succ (-1) z_5 0 _ _ hh_1 (hfl_3) (by refine ⟨by omega, by omega, ?_, ?_, by omega, by omega⟩; (rw [hk0, show (T9 3 a1.toInt - 0).toNat = kk by omega, hqz_5, ← hp4.2.1 _ (by omega) (by omega)]; exact hch); rw [hk0, hkm1, show (T9 3 a1.toInt - 0).toNat = (T9 3 a1.toInt).toNat by omega, hqz_5, ← hp4.2.1 _ (by omega) (by omega)]) (by omega) _ (lv_sub hl [3, 4, 5, 2, 1, 0] rfl)
  · skip
    have c_4' : r_2.toInt ≠ 1 := jb_eq_n (rfl) ((by decide)) c_4
    try clear hr_2_0
    refine lv_iconst (v := (-1)) hx hb dX4_member_9 (by decide) ?_
    rw [hQ]
    exact W.iret (v := (-1)) hx hb hr (fun t ht hW => ⟨⟨(-1), (), rfl, by refine ⟨by omega, by omega, by omega, ?_⟩; unfold jqM; rw [if_neg (by rw [← hr_2_1]; omega)]; exact hkm1, ⟨hh_1.rt (M1 := []) [] rfl ht, by rw [ht]; exact hfl_3⟩⟩, by rw [ht]; try exact hh_1.1.1, fun q h9 hq => by rw [ht]; try exact hh_1.1.2.1 q h9 hq⟩) hh_1.1.2.2 dX4_member_10
set_option maxHeartbeats 4000000 in
set_option maxRecDepth 20000 in
theorem uX4_unitAtJ (l : Launch) (dC : Nat → ClassId) (dI : Nat → Nat → Nat) (ca : Nat → ClassId) (base : Nat) (B : jF) (hB : jBok B) (hAp : jAp (dC, dI)) (hB6 : ∀ n G a H, B 6 n G a H ↔ jOb (dC, dI) 6 12 (F6 n G) a H) (hB140 : ∀ n G a H, B 140 n G a H ↔ jAr (dC, dI) (ca 1) (fun j z => True) n a H) (hB141 : ∀ n G a H, B 141 n G a H ↔ jAr (dC, dI) (ca 1) (fun j z => True) n a H) (hB142 : ∀ n G a H, B 142 n G a H ↔ jAr (dC, dI) (ca 1) (fun j z => True) n a H) (hB146 : ∀ n G a H, B 146 n G a H ↔ jAr (dC, dI) (ca 1) (fun j z => True) n a H) (G0 : jT) (H0 : Heap) (r0 : Nat) (a1 : Int32) (a2 : Int32) (pv : Int32) (pu : Int32) (wk : Nat) (wi : Nat) (wz : Nat) (jnx : Nat) (jkf : Nat) (jks : Nat) (jun : Nat) (T9 : Nat → Int → Int) (fk : Nat → Int32) (fi : Nat → Int32) (fz : Nat → Int32) (fn : Nat → Int32) (fa : Nat → Int32) (fs : Nat → Int32) (fu : Nat → Int32) : Met l yX4_unitAt (jw yX4_unitAt cX4_unitAt 4 (some .int)) ({ frames := 1, cells := 0, slots := 0, locals := 21 }) (va_Pc [.ref r0, .int a1, .int a2] (fun U => U.heap = H0 ∧ jX B base G0 [] H0 ∧ jG dC dI ca base U ∧ G0 r0 = some (6, 0) ∧ G0 wk = some (140, 1502) ∧ G0 wi = some (141, 1502) ∧ G0 wz = some (142, 1502) ∧ G0 jnx = some (143, 1502) ∧ G0 jkf = some (144, 1502) ∧ G0 jks = some (145, 1502) ∧ G0 jun = some (146, 3000) ∧ jP (dC, dI) G0 H0 [(r0, 6, 7, .int pv), (r0, 6, 8, .int pu), (r0, 6, 0, .ref wk), (r0, 6, 1, .ref wi), (r0, 6, 2, .ref wz), (r0, 6, 3, .ref jnx), (r0, 6, 4, .ref jkf), (r0, 6, 5, .ref jks), (r0, 6, 6, .ref jun)] ∧ jMc (dC, dI) G0 H0 [(wk, 140, 1502, ca 1, fk), (wi, 141, 1502, ca 1, fi), (wz, 142, 1502, ca 1, fz), (jnx, 143, 1502, ca 1, fn), (jkf, 144, 1502, ca 1, fa), (jks, 145, 1502, ca 1, fs), (jun, 146, 3000, ca 1, fu)] ∧ 0 ≤ pv.toInt ∧ pv.toInt ≤ 1502 ∧ 0 ≤ pu.toInt ∧ pu.toInt ≤ 3000 ∧ jjTC T9 pv.toInt pu.toInt fk fi fz fn fa fs fu ∧ jqR fk fi fz fa fs pv.toInt pu.toInt ∧ a2.toInt ≤ 1000000)) (va_Qi (S := Unit) (fun r u => (r.toInt = jqA T9 pv.toInt a1.toInt a2.toInt)) (fun u t => (jRt (dC, dI) B base G0 EX4_unitAtJ H0 [] t.heap) ∧ jKl [] H0 t.heap) (jA base)) 0 0 (jA base) := by
  refine Met.ofW (cc := cX4_unitAt) (maxL := 4) (ret := (some .int)) (by decide) rfl ?_
  intro p e s m args below meth c s₁ Bd hml hv
  obtain ⟨rfl, hH0, hX, hG, hg_r0, hg_wk, hg_wi, hg_wz, hg_jnx, hg_jkf, hg_jks, hg_jun, hP0, hM0, hp0, hp1, hp2, hp3, hp4, hp5, hp6⟩ := hv
  have hK := hG.1
  have hx := Bd.exec
  have hb := Bd.bytes
  have hr := Bd.returns
  have hts := atoms_spec (ws := (jw yX4_unitAt cX4_unitAt 4 (some .int))) Bd.pre
  have htw : ∀ w ∈ jWl, w.before _ s = true := fun w h => hts w (List.mem_cons_of_mem _ h)
  have hown : s.vm.findClass RX4 = some m.cls := findClass_of_methodNamed Bd.named
  have hlocks := Bd.notSynchronized
  obtain ⟨Q, hQ⟩ : ∃ Q, Q = MQ below (va_Qi (S := Unit) (fun r u => (r.toInt = jqA T9 pv.toInt a1.toInt a2.toInt)) (fun u t => (jRt (dC, dI) B base G0 EX4_unitAtJ H0 [] t.heap) ∧ jKl [] H0 t.heap) (jA base)) ([.ref r0, .int a1, .int a2] : List Value).toArray s 0 0 (jA base) := ⟨_, rfl⟩
  rw [← hQ]
  have hl := lv_entry ([.ref r0, .int a1, .int a2]) (n := 4) (Nat.le_of_ble_eq_true rfl)
  rw [lg_entry_eq]
  generalize (lg_sl ([.ref r0, .int a1, .int a2]) ++ List.replicate (4 - (lg_sl ([.ref r0, .int a1, .int a2])).length) Slot.unset).toArray = ls at hl ⊢
  have hl : lv_has ls 4 [(0, .ref r0), (1, .int a1), (2, .int a2)] := hl
  generalize hR : (headSpec (jw yX4_unitAt cX4_unitAt 4 (some .int)) ({ frames := 1, cells := 0, slots := 0, locals := 21 })).room = R
  subst hH0
  have hh : jSt (dC, dI) B base G0 G0 EX4_unitAtJ s.heap 0 0 [(r0, 6, 7, .int pv), (r0, 6, 8, .int pu), (r0, 6, 0, .ref wk), (r0, 6, 1, .ref wi), (r0, 6, 2, .ref wz), (r0, 6, 3, .ref jnx), (r0, 6, 4, .ref jkf), (r0, 6, 5, .ref jks), (r0, 6, 6, .ref jun)] [(wk, 140, 1502, ca 1, fk), (wi, 141, 1502, ca 1, fi), (wz, 142, 1502, ca 1, fz), (jnx, 143, 1502, ca 1, fn), (jkf, 144, 1502, ca 1, fa), (jks, 145, 1502, ca 1, fs), (jun, 146, 3000, ca 1, fu)] [] s.heap [] := jSt.start hX hP0 hM0 jIs.nil
  clear hX hP0
  have hkm1 : ((-1) : Int32).toInt = (-1) := by decide
  have hk0 : (0 : Int32).toInt = 0 := by decide
  have hk1 : (1 : Int32).toInt = 1 := by decide
  have hk3 : (3 : Int32).toInt = 3 := by decide
  have hly_6_1 := htw (u_lay RX4 TX4 1) (jWc_wsX40 _ (u_in_lay (by decide)))
  have hly_6_6 := htw (u_lay RX4 TX4 6) (jWc_wsX40 _ (u_in_lay (by decide)))
  have hlk_15 := (htw (.fieldLink RX4 15 "ProofServer$Json" "firsts" "[I") (jWr_3 _ (List.mem_of_getElem? (i := 22) rfl)))
  have hlk_30 := (htw (.fieldLink RX4 30 "ProofServer$Json" "units" "[I") (jWr_4 _ (List.mem_of_getElem? (i := 3) rfl)))
  have hrg_a1 := jb_rng a1
  have hrg_a2 := jb_rng a2
  have hfl : jKl [] s.heap s.heap := jKl.rf
  refine lv_aload_n hx hb dX4_unitAt_0 rfl (lv_at hl 0 rfl) ?_
  refine lv_iload_n hx hb dX4_unitAt_1 rfl (lv_at hl 1 rfl) ?_
  refine va_calli (A0 := jA base) (H0 := s.heap) (va_runV (As := [.int a1]) (rest := []) ⟨hx, hb, hml, hown, hts⟩ (uX4_kindOfJ l dC dI ca base B hB hAp hB6 hB140 G0 s.heap r0 a1 pv pu wk wi wz jnx jkf jks jun T9 fk fi fz fn fa fs fu) (cwV 1 hts (jgV (jWr_23 _ (List.mem_of_getElem? (i := 14) rfl)) (jWr_23 _ (List.mem_of_getElem? (i := 15) rfl)) (jWr_23 _ (List.mem_of_getElem? (i := 16) rfl)) (jWr_1 _ (List.mem_of_getElem? (i := 22) rfl)) (jWr_23 _ (List.mem_of_getElem? (i := 17) rfl))) rfl rfl rfl (by decide +kernel) ⟨by rw [← hR]; exact Nat.le_of_ble_eq_true rfl, by rw [← hR]; exact Nat.le_of_ble_eq_true rfl⟩) ⟨fun a U g mk q => by obtain ⟨q0, q1, q2, qK, q10, q11, q12, q13, q14, q15, q16, q17, q18, q19, q20⟩ := q; exact ⟨q0, q1, q2, jG.calling g mk a qK, q10, q11, q12, q13, q14, q15, q16, q17, q18, q19, q20⟩, hh.recv (C := RX4) (T := TX4) (N := 12) hB6 rfl (by decide) hg_r0 hK, fun U hU hW => ⟨rfl, hU, hh.2.1, hG.step hW hU hh.1, hg_r0, hg_wk, hg_wi, hg_wz, hg_jnx, hg_jkf, hg_jks, hg_jun, (hh.2.2.1.sub (L1 := [(r0, 6, 7, .int pv), (r0, 6, 8, .int pu), (r0, 6, 0, .ref wk), (r0, 6, 1, .ref wi), (r0, 6, 2, .ref wz), (r0, 6, 3, .ref jnx), (r0, 6, 4, .ref jkf), (r0, 6, 5, .ref jks), (r0, 6, 6, .ref jun)]) [0, 1, 2, 3, 4, 5, 6, 7, 8] rfl), (hh.2.2.2.2.2.2.2.1.sub (L1 := [(wk, 140, 1502, ca 1, fk), (wi, 141, 1502, ca 1, fi), (wz, 142, 1502, ca 1, fz), (jnx, 143, 1502, ca 1, fn), (jkf, 144, 1502, ca 1, fa), (jks, 145, 1502, ca 1, fs), (jun, 146, 3000, ca 1, fu)]) [0, 1, 2, 3, 4, 5, 6] rfl), by first | omega | (refine ⟨?_, ?_, ?_, ?_, ?_⟩ <;> (first | omega | rfl | assumption | decide | exact Or.inl rfl | exact Or.inr rfl | (simp only; omega)))⟩⟩ rfl rfl hl.1 rfl (lv_room (Nat.le_of_ble_eq_true rfl)) dX4_unitAt_2 ⟨Nat.zero_le _, Nat.zero_le _⟩) hh.1 (fun q _ h => h) (fun q h => h) (fun r_2 u_1 t_1 H_1 locs_1 ht_1 hvm_1 hr_2 hb_1 hz_1 hk_1 hS_1 => ?_)
  rw [ht_1] at hb_1
  obtain ⟨hb_1, hbF_1⟩ := hb_1
  obtain ⟨hb_11, hb_12, hb_13, hb_14, hb_15⟩ := hb_1
  have hh_1 : jSt (dC, dI) B base G0 G0 EX4_unitAtJ s.heap 0 0 [(r0, 6, 7, .int pv), (r0, 6, 8, .int pu), (r0, 6, 0, .ref wk), (r0, 6, 1, .ref wi), (r0, 6, 2, .ref wz), (r0, 6, 3, .ref jnx), (r0, 6, 4, .ref jkf), (r0, 6, 5, .ref jks), (r0, 6, 6, .ref jun)] [(wk, 140, 1502, ca 1, fk), (wi, 141, 1502, ca 1, fi), (wz, 142, 1502, ca 1, fz), (jnx, 143, 1502, ca 1, fn), (jkf, 144, 1502, ca 1, fa), (jks, 145, 1502, ca 1, fs), (jun, 146, 3000, ca 1, fu)] [] H_1 locs_1 := ((hh.call hb_11 hb_12 hb_13 hb_14 hS_1 rfl (L1 := [(r0, 6, 7, .int pv), (r0, 6, 8, .int pu), (r0, 6, 0, .ref wk), (r0, 6, 1, .ref wi), (r0, 6, 2, .ref wz), (r0, 6, 3, .ref jnx), (r0, 6, 4, .ref jkf), (r0, 6, 5, .ref jks), (r0, 6, 6, .ref jun)]) [0, 1, 2, 3, 4, 5, 6, 7, 8] rfl rfl (M1 := [(wk, 140, 1502, ca 1, fk), (wi, 141, 1502, ca 1, fi), (wz, 142, 1502, ca 1, fz), (jnx, 143, 1502, ca 1, fn), (jkf, 144, 1502, ca 1, fa), (jks, 145, 1502, ca 1, fs), (jun, 146, 3000, ca 1, fu)]) [0, 1, 2, 3, 4, 5, 6] rfl rfl (I1 := []) [] rfl rfl).more hb_15)
  clear hh ht_1 hvm_1 hz_1 hk_1 hS_1 hb_11 hb_12 hb_13 hb_14 hb_15
  have hfl_3 := hfl.tr hbF_1 (by first | exact fun q h => h | (intro q h9; simp at h9 ⊢; exact h9) | (intro q h9; simp at h9))
  obtain ⟨hr_2_0, hr_2_1⟩ := hr_2
  refine lv_iconst (v := 3) hx hb dX4_unitAt_5 (by decide) ?_
  refine lv_icmp_ne (tgt := 20) hx hb dX4_unitAt_6 (by decide) (fun c_4 => ?_) (fun c_4 => ?_)
  · skip
    have c_4' : r_2.toInt ≠ 3 := jb_ne (rfl) ((by decide)) c_4
    try clear hr_2_0
    refine lv_iconst (v := (-1)) hx hb dX4_unitAt_20 (by decide) ?_
    refine lv_istore_n (lv' := [(3, .int (-1)), (0, .ref r0), (1, .int a1), (2, .int a2)]) hx hb dX4_unitAt_21 rfl hl (by decide) rfl (fun ls hl => ?_)
    refine lv_iload_n hx hb dX4_unitAt_22 rfl (lv_at hl 3 rfl) ?_
    refine lv_if_lt (tgt := 48) hx hb dX4_unitAt_23 (by decide) (fun c_5 => ?_) (fun c_5 => ?_)
    · skip
      have c_5' : a2.toInt < 0 := jb_lt (rfl) ((by decide)) c_5
      refine lv_iconst (v := 0) hx hb dX4_unitAt_48 (by decide) ?_
      refine lv_goto (tgt := 58) hx hb dX4_unitAt_49 (by decide) ?_
      rw [hQ]
      exact W.iret (v := 0) hx hb hr (fun t ht hW => ⟨⟨0, (), rfl, by unfold jqA; rw [if_neg (fun h9 => absurd h9.1 (by rw [← hr_2_1]; omega))]; exact hk0, ⟨hh_1.rt (M1 := []) [] rfl ht, by rw [ht]; exact hfl_3⟩⟩, by rw [ht]; try exact hh_1.1.1, fun q h9 hq => by rw [ht]; try exact hh_1.1.2.1 q h9 hq⟩) hh_1.1.2.2 dX4_unitAt_58
    · skip
      have c_5' : a2.toInt ≥ 0 := jb_lt_n (rfl) ((by decide)) c_5
      refine lv_iload_n hx hb dX4_unitAt_26 rfl (lv_at hl 3 rfl) ?_
      refine lv_aload_n hx hb dX4_unitAt_27 rfl (lv_at hl 1 rfl) ?_
      refine lv_iload_n hx hb dX4_unitAt_28 rfl (lv_at hl 2 rfl) ?_
      refine va_calli (A0 := jA base) (H0 := s.heap) (va_runV (As := [.int a1]) (rest := [.int a2]) ⟨hx, hb, hml, hown, hts⟩ (uX4_sizeOfJ l dC dI ca base B hB hAp hB6 hB142 G0 H_1 r0 a1 pv pu wk wi wz jnx jkf jks jun T9 fk fi fz fn fa fs fu) (cwV 1 hts (jgV (jWr_25 _ (List.mem_of_getElem? (i := 8) rfl)) (jWr_24 _ (List.mem_of_getElem? (i := 7) rfl)) (jWr_24 _ (List.mem_of_getElem? (i := 8) rfl)) (jWr_1 _ (List.mem_of_getElem? (i := 22) rfl)) (jWr_24 _ (List.mem_of_getElem? (i := 9) rfl))) rfl rfl rfl (by decide +kernel) ⟨by rw [← hR]; exact Nat.le_of_ble_eq_true rfl, by rw [← hR]; exact Nat.le_of_ble_eq_true rfl⟩) ⟨fun a U g mk q => by obtain ⟨q0, q1, q2, qK, q10, q11, q12, q13, q14, q15, q16, q17, q18, q19, q20⟩ := q; exact ⟨q0, q1, q2, jG.calling g mk a qK, q10, q11, q12, q13, q14, q15, q16, q17, q18, q19, q20⟩, hh_1.recv (C := RX4) (T := TX4) (N := 12) hB6 rfl (by decide) hg_r0 hK, fun U hU hW => ⟨rfl, hU, hh_1.2.1, hG.step hW hU hh_1.1, hg_r0, hg_wk, hg_wi, hg_wz, hg_jnx, hg_jkf, hg_jks, hg_jun, (hh_1.2.2.1.sub (L1 := [(r0, 6, 7, .int pv), (r0, 6, 8, .int pu), (r0, 6, 0, .ref wk), (r0, 6, 1, .ref wi), (r0, 6, 2, .ref wz), (r0, 6, 3, .ref jnx), (r0, 6, 4, .ref jkf), (r0, 6, 5, .ref jks), (r0, 6, 6, .ref jun)]) [0, 1, 2, 3, 4, 5, 6, 7, 8] rfl), (hh_1.2.2.2.2.2.2.2.1.sub (L1 := [(wk, 140, 1502, ca 1, fk), (wi, 141, 1502, ca 1, fi), (wz, 142, 1502, ca 1, fz), (jnx, 143, 1502, ca 1, fn), (jkf, 144, 1502, ca 1, fa), (jks, 145, 1502, ca 1, fs), (jun, 146, 3000, ca 1, fu)]) [0, 1, 2, 3, 4, 5, 6] rfl), by first | omega | (refine ⟨?_, ?_, ?_, ?_, ?_⟩ <;> (first | omega | rfl | assumption | decide | exact Or.inl rfl | exact Or.inr rfl | (simp only; omega)))⟩⟩ rfl rfl hl.1 rfl (lv_room (Nat.le_of_ble_eq_true rfl)) dX4_unitAt_29 ⟨Nat.zero_le _, Nat.zero_le _⟩) hh_1.1 (fun q _ h => h) (fun q h => h) (fun r_7 u_6 t_6 H_6 locs_6 ht_6 hvm_6 hr_7 hb_6 hz_6 hk_6 hS_6 => ?_)
      rw [ht_6] at hb_6
      obtain ⟨hb_6, hbF_6⟩ := hb_6
      obtain ⟨hb_61, hb_62, hb_63, hb_64, hb_65⟩ := hb_6
      have hh_6 : jSt (dC, dI) B base G0 G0 EX4_unitAtJ s.heap 0 0 [(r0, 6, 7, .int pv), (r0, 6, 8, .int pu), (r0, 6, 0, .ref wk), (r0, 6, 1, .ref wi), (r0, 6, 2, .ref wz), (r0, 6, 3, .ref jnx), (r0, 6, 4, .ref jkf), (r0, 6, 5, .ref jks), (r0, 6, 6, .ref jun)] [(wk, 140, 1502, ca 1, fk), (wi, 141, 1502, ca 1, fi), (wz, 142, 1502, ca 1, fz), (jnx, 143, 1502, ca 1, fn), (jkf, 144, 1502, ca 1, fa), (jks, 145, 1502, ca 1, fs), (jun, 146, 3000, ca 1, fu)] [] H_6 locs_6 := ((hh_1.call hb_61 hb_62 hb_63 hb_64 hS_6 rfl (L1 := [(r0, 6, 7, .int pv), (r0, 6, 8, .int pu), (r0, 6, 0, .ref wk), (r0, 6, 1, .ref wi), (r0, 6, 2, .ref wz), (r0, 6, 3, .ref jnx), (r0, 6, 4, .ref jkf), (r0, 6, 5, .ref jks), (r0, 6, 6, .ref jun)]) [0, 1, 2, 3, 4, 5, 6, 7, 8] rfl rfl (M1 := [(wk, 140, 1502, ca 1, fk), (wi, 141, 1502, ca 1, fi), (wz, 142, 1502, ca 1, fz), (jnx, 143, 1502, ca 1, fn), (jkf, 144, 1502, ca 1, fa), (jks, 145, 1502, ca 1, fs), (jun, 146, 3000, ca 1, fu)]) [0, 1, 2, 3, 4, 5, 6] rfl rfl (I1 := []) [] rfl rfl).more hb_65)
      clear hh_1 ht_6 hvm_6 hz_6 hk_6 hS_6 hb_61 hb_62 hb_63 hb_64 hb_65
      have hfl_8 := hfl_3.tr hbF_6 (by first | exact fun q h => h | (intro q h9; simp at h9 ⊢; exact h9) | (intro q h9; simp at h9))
      obtain ⟨hr_7_0, hr_7_1⟩ := hr_7
      refine lv_icmp_ge (tgt := 48) hx hb dX4_unitAt_32 (by decide) (fun c_9 => ?_) (fun c_9 => ?_)
      · skip
        have c_9' : a2.toInt ≥ r_7.toInt := jb_ge (rfl) (rfl) c_9
        first | (have hr_7_0q := hr_7_0.resolve_left (by omega); clear hr_7_0) | (have hr_7_0q := hr_7_0.resolve_right (by omega); clear hr_7_0) | try clear hr_7_0
        refine lv_iconst (v := 0) hx hb dX4_unitAt_48 (by decide) ?_
        refine lv_goto (tgt := 58) hx hb dX4_unitAt_49 (by decide) ?_
        rw [hQ]
        exact W.iret (v := 0) hx hb hr (fun t ht hW => ⟨⟨0, (), rfl, by unfold jqA; rw [if_neg (fun h9 => absurd h9.1 (by rw [← hr_2_1]; omega))]; exact hk0, ⟨hh_6.rt (M1 := []) [] rfl ht, by rw [ht]; exact hfl_8⟩⟩, by rw [ht]; try exact hh_6.1.1, fun q h9 hq => by rw [ht]; try exact hh_6.1.2.1 q h9 hq⟩) hh_6.1.2.2 dX4_unitAt_58
      · skip
        have c_9' : a2.toInt < r_7.toInt := jb_ge_n (rfl) (rfl) c_9
        first | (have hr_7_0q := hr_7_0.resolve_left (by omega); clear hr_7_0) | (have hr_7_0q := hr_7_0.resolve_right (by omega); clear hr_7_0) | try clear hr_7_0
        refine lv_iload_n hx hb dX4_unitAt_35 rfl (lv_at hl 0 rfl) ?_
        refine lv_if_lt (tgt := 48) hx hb dX4_unitAt_36 (by decide) (fun c_10 => ?_) (fun c_10 => ?_)
        · skip
          refine lv_iconst (v := 0) hx hb dX4_unitAt_48 (by decide) ?_
          refine lv_goto (tgt := 58) hx hb dX4_unitAt_49 (by decide) ?_
          rw [hQ]
          exact W.iret (v := 0) hx hb hr (fun t ht hW => ⟨⟨0, (), rfl, by unfold jqA; rw [if_neg (fun h9 => absurd h9.1 (by rw [← hr_2_1]; omega))]; exact hk0, ⟨hh_6.rt (M1 := []) [] rfl ht, by rw [ht]; exact hfl_8⟩⟩, by rw [ht]; try exact hh_6.1.1, fun q h9 hq => by rw [ht]; try exact hh_6.1.2.1 q h9 hq⟩) hh_6.1.2.2 dX4_unitAt_58
        · skip
          exact absurd c_10 (by decide)
  · skip
    have c_4' : r_2.toInt = 3 := jb_ne_n (rfl) ((by decide)) c_4
    first | (have hr_2_0q := hr_2_0.resolve_left (by omega); clear hr_2_0) | (have hr_2_0q := hr_2_0.resolve_right (by omega); clear hr_2_0) | try clear hr_2_0
    have hka := jqK.p (T := T9) (v := pv.toInt) (i := a1.toInt) (by rw [← hr_2_1]; omega)
    have hr9 := (hp5 a1.toInt hka.1 hka.2.1).2 (by rw [← hp4.1 _ hka.1 hka.2.1, ← hka.2.2, ← hr_2_1]; omega)
    refine lv_aload_n hx hb dX4_unitAt_9 rfl (lv_at hl 0 rfl) ?_
    refine j7_read hx hb hown hK (C := RX4) (T := TX4) (N := 12) rfl hly_6_1 hlk_15 (hh_1.at 3 rfl) dX4_unitAt_10 ?_
    refine lv_iload_n hx hb dX4_unitAt_13 rfl (lv_at hl 1 rfl) ?_
    refine j7_ialdM hx hb hK hh_1 hB141 1 rfl (by decide) hg_wi (x := a1.toInt) (rfl) (by omega) (j := 1) rfl dX4_unitAt_14 (fun z_11 ez_11 (hz_11 : True) => ?_)
    have hqz_11 : z_11.toInt = jSo fi (a1.toInt) := by unfold jSo; rw [ez_11]
    refine lv_iload_n hx hb dX4_unitAt_15 rfl (lv_at hl 2 rfl) ?_
    refine lv_iadd hx hb dX4_unitAt_16 ?_
    refine lv_topi (fun z_12 ez_12 => ?_)
    have hz_12 : z_12.toInt = z_11.toInt + a2.toInt := by rw [ez_12]; exact jb_iadd2 (rfl) (rfl) (by omega)
    refine lv_goto (tgt := 21) hx hb dX4_unitAt_17 (by decide) ?_
    refine lv_istore_n (lv' := [(3, .int z_12), (0, .ref r0), (1, .int a1), (2, .int a2)]) hx hb dX4_unitAt_21 rfl hl (by decide) rfl (fun ls hl => ?_)
    refine lv_iload_n hx hb dX4_unitAt_22 rfl (lv_at hl 3 rfl) ?_
    refine lv_if_lt (tgt := 48) hx hb dX4_unitAt_23 (by decide) (fun c_13 => ?_) (fun c_13 => ?_)
    · skip
      have c_13' : a2.toInt < 0 := jb_lt (rfl) ((by decide)) c_13
      refine lv_iconst (v := 0) hx hb dX4_unitAt_48 (by decide) ?_
      refine lv_goto (tgt := 58) hx hb dX4_unitAt_49 (by decide) ?_
      rw [hQ]
      exact W.iret (v := 0) hx hb hr (fun t ht hW => ⟨⟨0, (), rfl, by unfold jqA; rw [if_neg (fun h9 => by have h8 := h9.2; rw [hp4.2.2.1 _ hka.1 hka.2.1] at h8; have h7 := hr9; have h6 := hqz_11; omega)]; exact hk0, ⟨hh_1.rt (M1 := []) [] rfl ht, by rw [ht]; exact hfl_3⟩⟩, by rw [ht]; try exact hh_1.1.1, fun q h9 hq => by rw [ht]; try exact hh_1.1.2.1 q h9 hq⟩) hh_1.1.2.2 dX4_unitAt_58
    · skip
      have c_13' : a2.toInt ≥ 0 := jb_lt_n (rfl) ((by decide)) c_13
      refine lv_iload_n hx hb dX4_unitAt_26 rfl (lv_at hl 3 rfl) ?_
      refine lv_aload_n hx hb dX4_unitAt_27 rfl (lv_at hl 1 rfl) ?_
      refine lv_iload_n hx hb dX4_unitAt_28 rfl (lv_at hl 2 rfl) ?_
      refine va_calli (A0 := jA base) (H0 := s.heap) (va_runV (As := [.int a1]) (rest := [.int a2]) ⟨hx, hb, hml, hown, hts⟩ (uX4_sizeOfJ l dC dI ca base B hB hAp hB6 hB142 G0 H_1 r0 a1 pv pu wk wi wz jnx jkf jks jun T9 fk fi fz fn fa fs fu) (cwV 1 hts (jgV (jWr_25 _ (List.mem_of_getElem? (i := 8) rfl)) (jWr_24 _ (List.mem_of_getElem? (i := 7) rfl)) (jWr_24 _ (List.mem_of_getElem? (i := 8) rfl)) (jWr_1 _ (List.mem_of_getElem? (i := 22) rfl)) (jWr_24 _ (List.mem_of_getElem? (i := 9) rfl))) rfl rfl rfl (by decide +kernel) ⟨by rw [← hR]; exact Nat.le_of_ble_eq_true rfl, by rw [← hR]; exact Nat.le_of_ble_eq_true rfl⟩) ⟨fun a U g mk q => by obtain ⟨q0, q1, q2, qK, q10, q11, q12, q13, q14, q15, q16, q17, q18, q19, q20⟩ := q; exact ⟨q0, q1, q2, jG.calling g mk a qK, q10, q11, q12, q13, q14, q15, q16, q17, q18, q19, q20⟩, hh_1.recv (C := RX4) (T := TX4) (N := 12) hB6 rfl (by decide) hg_r0 hK, fun U hU hW => ⟨rfl, hU, hh_1.2.1, hG.step hW hU hh_1.1, hg_r0, hg_wk, hg_wi, hg_wz, hg_jnx, hg_jkf, hg_jks, hg_jun, (hh_1.2.2.1.sub (L1 := [(r0, 6, 7, .int pv), (r0, 6, 8, .int pu), (r0, 6, 0, .ref wk), (r0, 6, 1, .ref wi), (r0, 6, 2, .ref wz), (r0, 6, 3, .ref jnx), (r0, 6, 4, .ref jkf), (r0, 6, 5, .ref jks), (r0, 6, 6, .ref jun)]) [0, 1, 2, 3, 4, 5, 6, 7, 8] rfl), (hh_1.2.2.2.2.2.2.2.1.sub (L1 := [(wk, 140, 1502, ca 1, fk), (wi, 141, 1502, ca 1, fi), (wz, 142, 1502, ca 1, fz), (jnx, 143, 1502, ca 1, fn), (jkf, 144, 1502, ca 1, fa), (jks, 145, 1502, ca 1, fs), (jun, 146, 3000, ca 1, fu)]) [0, 1, 2, 3, 4, 5, 6] rfl), by first | omega | (refine ⟨?_, ?_, ?_, ?_, ?_⟩ <;> (first | omega | rfl | assumption | decide | exact Or.inl rfl | exact Or.inr rfl | (simp only; omega)))⟩⟩ rfl rfl hl.1 rfl (lv_room (Nat.le_of_ble_eq_true rfl)) dX4_unitAt_29 ⟨Nat.zero_le _, Nat.zero_le _⟩) hh_1.1 (fun q _ h => h) (fun q h => h) (fun r_15 u_14 t_14 H_14 locs_14 ht_14 hvm_14 hr_15 hb_14 hz_14 hk_14 hS_14 => ?_)
      rw [ht_14] at hb_14
      obtain ⟨hb_14, hbF_14⟩ := hb_14
      obtain ⟨hb_141, hb_142, hb_143, hb_144, hb_145⟩ := hb_14
      have hh_14 : jSt (dC, dI) B base G0 G0 EX4_unitAtJ s.heap 0 0 [(r0, 6, 7, .int pv), (r0, 6, 8, .int pu), (r0, 6, 0, .ref wk), (r0, 6, 1, .ref wi), (r0, 6, 2, .ref wz), (r0, 6, 3, .ref jnx), (r0, 6, 4, .ref jkf), (r0, 6, 5, .ref jks), (r0, 6, 6, .ref jun)] [(wk, 140, 1502, ca 1, fk), (wi, 141, 1502, ca 1, fi), (wz, 142, 1502, ca 1, fz), (jnx, 143, 1502, ca 1, fn), (jkf, 144, 1502, ca 1, fa), (jks, 145, 1502, ca 1, fs), (jun, 146, 3000, ca 1, fu)] [] H_14 locs_14 := ((hh_1.call hb_141 hb_142 hb_143 hb_144 hS_14 rfl (L1 := [(r0, 6, 7, .int pv), (r0, 6, 8, .int pu), (r0, 6, 0, .ref wk), (r0, 6, 1, .ref wi), (r0, 6, 2, .ref wz), (r0, 6, 3, .ref jnx), (r0, 6, 4, .ref jkf), (r0, 6, 5, .ref jks), (r0, 6, 6, .ref jun)]) [0, 1, 2, 3, 4, 5, 6, 7, 8] rfl rfl (M1 := [(wk, 140, 1502, ca 1, fk), (wi, 141, 1502, ca 1, fi), (wz, 142, 1502, ca 1, fz), (jnx, 143, 1502, ca 1, fn), (jkf, 144, 1502, ca 1, fa), (jks, 145, 1502, ca 1, fs), (jun, 146, 3000, ca 1, fu)]) [0, 1, 2, 3, 4, 5, 6] rfl rfl (I1 := []) [] rfl rfl).more hb_145)
      clear hh_1 ht_14 hvm_14 hz_14 hk_14 hS_14 hb_141 hb_142 hb_143 hb_144 hb_145
      have hfl_16 := hfl_3.tr hbF_14 (by first | exact fun q h => h | (intro q h9; simp at h9 ⊢; exact h9) | (intro q h9; simp at h9))
      obtain ⟨hr_15_0, hr_15_1⟩ := hr_15
      have hs29 : r_15.toInt = jSo fz a1.toInt := (hr_15_0.resolve_left (by omega)).resolve_left (by omega)
      refine lv_icmp_ge (tgt := 48) hx hb dX4_unitAt_32 (by decide) (fun c_17 => ?_) (fun c_17 => ?_)
      · skip
        have c_17' : a2.toInt ≥ r_15.toInt := jb_ge (rfl) (rfl) c_17
        first | (have hr_15_0q := hr_15_0.resolve_left (by omega); clear hr_15_0) | (have hr_15_0q := hr_15_0.resolve_right (by omega); clear hr_15_0) | try clear hr_15_0
        refine lv_iconst (v := 0) hx hb dX4_unitAt_48 (by decide) ?_
        refine lv_goto (tgt := 58) hx hb dX4_unitAt_49 (by decide) ?_
        rw [hQ]
        exact W.iret (v := 0) hx hb hr (fun t ht hW => ⟨⟨0, (), rfl, by unfold jqA; rw [if_neg (fun h9 => by have h8 := h9.2; rw [hp4.2.2.1 _ hka.1 hka.2.1] at h8; have h7 := hr9; have h5 := hs29; have h6 := hqz_11; omega)]; exact hk0, ⟨hh_14.rt (M1 := []) [] rfl ht, by rw [ht]; exact hfl_16⟩⟩, by rw [ht]; try exact hh_14.1.1, fun q h9 hq => by rw [ht]; try exact hh_14.1.2.1 q h9 hq⟩) hh_14.1.2.2 dX4_unitAt_58
      · skip
        have c_17' : a2.toInt < r_15.toInt := jb_ge_n (rfl) (rfl) c_17
        first | (have hr_15_0q := hr_15_0.resolve_left (by omega); clear hr_15_0) | (have hr_15_0q := hr_15_0.resolve_right (by omega); clear hr_15_0) | try clear hr_15_0
        refine lv_iload_n hx hb dX4_unitAt_35 rfl (lv_at hl 0 rfl) ?_
        refine lv_if_lt (tgt := 48) hx hb dX4_unitAt_36 (by decide) (fun c_18 => ?_) (fun c_18 => ?_)
        · skip
          have c_18' : z_12.toInt < 0 := jb_lt (rfl) ((by decide)) c_18
          refine lv_iconst (v := 0) hx hb dX4_unitAt_48 (by decide) ?_
          refine lv_goto (tgt := 58) hx hb dX4_unitAt_49 (by decide) ?_
          rw [hQ]
          exact W.iret (v := 0) hx hb hr (fun t ht hW => ⟨⟨0, (), rfl, by unfold jqA; rw [if_neg (fun h9 => by have h8 := h9.2; rw [hp4.2.2.1 _ hka.1 hka.2.1] at h8; have h7 := hr9; have h5 := hs29; have h6 := hqz_11; omega)]; exact hk0, ⟨hh_14.rt (M1 := []) [] rfl ht, by rw [ht]; exact hfl_16⟩⟩, by rw [ht]; try exact hh_14.1.1, fun q h9 hq => by rw [ht]; try exact hh_14.1.2.1 q h9 hq⟩) hh_14.1.2.2 dX4_unitAt_58
        · skip
          have c_18' : z_12.toInt ≥ 0 := jb_lt_n (rfl) ((by decide)) c_18
          refine lv_iload_n hx hb dX4_unitAt_39 rfl (lv_at hl 0 rfl) ?_
          refine lv_aload_n hx hb dX4_unitAt_40 rfl (lv_at hl 1 rfl) ?_
          refine j7_read hx hb hown hK (C := RX4) (T := TX4) (N := 12) rfl hly_6_6 hlk_30 (hh_14.at 8 rfl) dX4_unitAt_41 ?_
          refine j7_len hx hb hK hh_14 hB146 1 rfl (by decide) hg_jun (by omega) dX4_unitAt_44 (fun z_19 hz_19 => ?_)
          refine lv_icmp_lt (tgt := 52) hx hb dX4_unitAt_45 (by decide) (fun c_20 => ?_) (fun c_20 => ?_)
          · skip
            have c_20' : z_12.toInt < z_19.toInt := jb_lt (rfl) (rfl) c_20
            refine lv_aload_n hx hb dX4_unitAt_52 rfl (lv_at hl 1 rfl) ?_
            refine j7_read hx hb hown hK (C := RX4) (T := TX4) (N := 12) rfl hly_6_6 hlk_30 (hh_14.at 8 rfl) dX4_unitAt_53 ?_
            refine lv_iload_n hx hb dX4_unitAt_56 rfl (lv_at hl 0 rfl) ?_
            refine j7_ialdM hx hb hK hh_14 hB146 1 rfl (by decide) hg_jun (x := z_12.toInt) (rfl) (by omega) (j := 6) rfl dX4_unitAt_57 (fun z_21 ez_21 (hz_21 : True) => ?_)
            have hqz_21 : z_21.toInt = jSo fu ((z_11.toInt + a2.toInt)) := by unfold jSo; rw [ez_21, show z_12.toInt = (z_11.toInt + a2.toInt) by omega]
            rw [hQ]
            exact W.iret (v := z_21) hx hb hr (fun t ht hW => ⟨⟨z_21, (), rfl, by unfold jqA; rw [if_pos ⟨(by rw [← hr_2_1]; omega), by omega, by rw [hp4.2.2.1 _ hka.1 hka.2.1]; have h9 := hs29; omega⟩, hp4.2.1 _ hka.1 hka.2.1, hp4.2.2.2.2.2.2 _ (by omega) (by omega)]; exact hqz_21.trans (by rw [hqz_11]), ⟨hh_14.rt (M1 := []) [] rfl ht, by rw [ht]; exact hfl_16⟩⟩, by rw [ht]; try exact hh_14.1.1, fun q h9 hq => by rw [ht]; try exact hh_14.1.2.1 q h9 hq⟩) hh_14.1.2.2 dX4_unitAt_58
          · skip
            have c_20' : z_12.toInt ≥ z_19.toInt := jb_lt_n (rfl) (rfl) c_20
            refine lv_iconst (v := 0) hx hb dX4_unitAt_48 (by decide) ?_
            refine lv_goto (tgt := 58) hx hb dX4_unitAt_49 (by decide) ?_
            rw [hQ]
            exact W.iret (v := 0) hx hb hr (fun t ht hW => ⟨⟨0, (), rfl, by unfold jqA; rw [if_neg (fun h9 => by have h8 := h9.2; rw [hp4.2.2.1 _ hka.1 hka.2.1] at h8; have h7 := hr9; have h5 := hs29; have h6 := hqz_11; omega)]; exact hk0, ⟨hh_14.rt (M1 := []) [] rfl ht, by rw [ht]; exact hfl_16⟩⟩, by rw [ht]; try exact hh_14.1.1, fun q h9 hq => by rw [ht]; try exact hh_14.1.2.1 q h9 hq⟩) hh_14.1.2.2 dX4_unitAt_58
end
