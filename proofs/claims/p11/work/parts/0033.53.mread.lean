section
def jIn (x a b : Int) : Int := if a ≤ x ∧ x ≤ b then 1 else 0
theorem dX14_here_0 : decode cX14_here 0 = .ok (.aload_n 0, 1) := by decide +kernel
theorem dX14_here_1 : decode cX14_here 1 = .ok (.getfield 273, 3) := by decide +kernel
theorem dX14_here_4 : decode cX14_here 4 = .ok (.aload_n 0, 1) := by decide +kernel
theorem dX14_here_5 : decode cX14_here 5 = .ok (.getfield 276, 3) := by decide +kernel
theorem dX14_here_8 : decode cX14_here 8 = .ok (.if_icmp .ge 15, 3) := by decide +kernel
theorem dX14_here_11 : decode cX14_here 11 = .ok (.aload_n 0, 1) := by decide +kernel
theorem dX14_here_12 : decode cX14_here 12 = .ok (.getfield 20, 3) := by decide +kernel
theorem dX14_here_15 : decode cX14_here 15 = .ok (.aload_n 0, 1) := by decide +kernel
theorem dX14_here_16 : decode cX14_here 16 = .ok (.getfield 273, 3) := by decide +kernel
theorem dX14_here_19 : decode cX14_here 19 = .ok (.iaload, 1) := by decide +kernel
theorem dX14_here_20 : decode cX14_here 20 = .ok (.goto 4, 3) := by decide +kernel
theorem dX14_here_23 : decode cX14_here 23 = .ok (.iconst (-1), 1) := by decide +kernel
theorem dX14_here_24 : decode cX14_here 24 = .ok (.ireturn, 1) := by decide +kernel
theorem dX14_blanks_0 : decode cX14_blanks 0 = .ok (.aload_n 0, 1) := by decide +kernel
theorem dX14_blanks_1 : decode cX14_blanks 1 = .ok (.invokevirtual 279, 3) := by decide +kernel
theorem dX14_blanks_4 : decode cX14_blanks 4 = .ok (.bipush 32, 2) := by decide +kernel
theorem dX14_blanks_6 : decode cX14_blanks 6 = .ok (.if_icmp .eq 30, 3) := by decide +kernel
theorem dX14_blanks_9 : decode cX14_blanks 9 = .ok (.aload_n 0, 1) := by decide +kernel
theorem dX14_blanks_10 : decode cX14_blanks 10 = .ok (.invokevirtual 279, 3) := by decide +kernel
theorem dX14_blanks_13 : decode cX14_blanks 13 = .ok (.bipush 9, 2) := by decide +kernel
theorem dX14_blanks_15 : decode cX14_blanks 15 = .ok (.if_icmp .eq 21, 3) := by decide +kernel
theorem dX14_blanks_18 : decode cX14_blanks 18 = .ok (.aload_n 0, 1) := by decide +kernel
theorem dX14_blanks_19 : decode cX14_blanks 19 = .ok (.invokevirtual 279, 3) := by decide +kernel
theorem dX14_blanks_22 : decode cX14_blanks 22 = .ok (.bipush 10, 2) := by decide +kernel
theorem dX14_blanks_24 : decode cX14_blanks 24 = .ok (.if_icmp .eq 12, 3) := by decide +kernel
theorem dX14_blanks_27 : decode cX14_blanks 27 = .ok (.aload_n 0, 1) := by decide +kernel
theorem dX14_blanks_28 : decode cX14_blanks 28 = .ok (.invokevirtual 279, 3) := by decide +kernel
theorem dX14_blanks_31 : decode cX14_blanks 31 = .ok (.bipush 13, 2) := by decide +kernel
theorem dX14_blanks_33 : decode cX14_blanks 33 = .ok (.if_icmp .ne 16, 3) := by decide +kernel
theorem dX14_blanks_36 : decode cX14_blanks 36 = .ok (.aload_n 0, 1) := by decide +kernel
theorem dX14_blanks_37 : decode cX14_blanks 37 = .ok (.dup, 1) := by decide +kernel
theorem dX14_blanks_38 : decode cX14_blanks 38 = .ok (.getfield 273, 3) := by decide +kernel
theorem dX14_blanks_41 : decode cX14_blanks 41 = .ok (.iconst 1, 1) := by decide +kernel
theorem dX14_blanks_42 : decode cX14_blanks 42 = .ok (.iadd, 1) := by decide +kernel
theorem dX14_blanks_43 : decode cX14_blanks 43 = .ok (.putfield 273, 3) := by decide +kernel
theorem dX14_blanks_46 : decode cX14_blanks 46 = .ok (.goto (-46), 3) := by decide +kernel
theorem dX14_blanks_49 : decode cX14_blanks 49 = .ok (.return_, 1) := by decide +kernel
theorem dX14_node_0 : decode cX14_node 0 = .ok (.aload_n 0, 1) := by decide +kernel
theorem dX14_node_1 : decode cX14_node 1 = .ok (.getfield 37, 3) := by decide +kernel
theorem dX14_node_4 : decode cX14_node 4 = .ok (.aload_n 0, 1) := by decide +kernel
theorem dX14_node_5 : decode cX14_node 5 = .ok (.getfield 282, 3) := by decide +kernel
theorem dX14_node_8 : decode cX14_node 8 = .ok (.iload_n 1, 1) := by decide +kernel
theorem dX14_node_9 : decode cX14_node 9 = .ok (.iastore, 1) := by decide +kernel
theorem dX14_node_10 : decode cX14_node 10 = .ok (.aload_n 0, 1) := by decide +kernel
theorem dX14_node_11 : decode cX14_node 11 = .ok (.getfield 40, 3) := by decide +kernel
theorem dX14_node_14 : decode cX14_node 14 = .ok (.aload_n 0, 1) := by decide +kernel
theorem dX14_node_15 : decode cX14_node 15 = .ok (.getfield 282, 3) := by decide +kernel
theorem dX14_node_18 : decode cX14_node 18 = .ok (.iconst (-1), 1) := by decide +kernel
theorem dX14_node_19 : decode cX14_node 19 = .ok (.iastore, 1) := by decide +kernel
theorem dX14_node_20 : decode cX14_node 20 = .ok (.aload_n 0, 1) := by decide +kernel
theorem dX14_node_21 : decode cX14_node 21 = .ok (.getfield 43, 3) := by decide +kernel
theorem dX14_node_24 : decode cX14_node 24 = .ok (.aload_n 0, 1) := by decide +kernel
theorem dX14_node_25 : decode cX14_node 25 = .ok (.getfield 282, 3) := by decide +kernel
theorem dX14_node_28 : decode cX14_node 28 = .ok (.iconst (-1), 1) := by decide +kernel
theorem dX14_node_29 : decode cX14_node 29 = .ok (.iastore, 1) := by decide +kernel
theorem dX14_node_30 : decode cX14_node 30 = .ok (.aload_n 0, 1) := by decide +kernel
theorem dX14_node_31 : decode cX14_node 31 = .ok (.getfield 58, 3) := by decide +kernel
theorem dX14_node_34 : decode cX14_node 34 = .ok (.aload_n 0, 1) := by decide +kernel
theorem dX14_node_35 : decode cX14_node 35 = .ok (.getfield 282, 3) := by decide +kernel
theorem dX14_node_38 : decode cX14_node 38 = .ok (.iconst 0, 1) := by decide +kernel
theorem dX14_node_39 : decode cX14_node 39 = .ok (.bastore, 1) := by decide +kernel
theorem dX14_node_40 : decode cX14_node 40 = .ok (.aload_n 0, 1) := by decide +kernel
theorem dX14_node_41 : decode cX14_node 41 = .ok (.dup, 1) := by decide +kernel
theorem dX14_node_42 : decode cX14_node 42 = .ok (.getfield 282, 3) := by decide +kernel
theorem dX14_node_45 : decode cX14_node 45 = .ok (.iconst 1, 1) := by decide +kernel
theorem dX14_node_46 : decode cX14_node 46 = .ok (.iadd, 1) := by decide +kernel
theorem dX14_node_47 : decode cX14_node 47 = .ok (.putfield 282, 3) := by decide +kernel
theorem dX14_node_50 : decode cX14_node 50 = .ok (.aload_n 0, 1) := by decide +kernel
theorem dX14_node_51 : decode cX14_node 51 = .ok (.getfield 282, 3) := by decide +kernel
theorem dX14_node_54 : decode cX14_node 54 = .ok (.iconst 1, 1) := by decide +kernel
theorem dX14_node_55 : decode cX14_node 55 = .ok (.isub, 1) := by decide +kernel
theorem dX14_node_56 : decode cX14_node 56 = .ok (.ireturn, 1) := by decide +kernel
theorem dX14_takes_0 : decode cX14_takes 0 = .ok (.iconst 0, 1) := by decide +kernel
theorem dX14_takes_1 : decode cX14_takes 1 = .ok (.istore_n 2, 1) := by decide +kernel
theorem dX14_takes_2 : decode cX14_takes 2 = .ok (.iload_n 2, 1) := by decide +kernel
theorem dX14_takes_3 : decode cX14_takes 3 = .ok (.aload_n 1, 1) := by decide +kernel
theorem dX14_takes_4 : decode cX14_takes 4 = .ok (.invokevirtual 163, 3) := by decide +kernel
theorem dX14_takes_7 : decode cX14_takes 7 = .ok (.if_icmp .ge 43, 3) := by decide +kernel
theorem dX14_takes_10 : decode cX14_takes 10 = .ok (.aload_n 0, 1) := by decide +kernel
theorem dX14_takes_11 : decode cX14_takes 11 = .ok (.getfield 273, 3) := by decide +kernel
theorem dX14_takes_14 : decode cX14_takes 14 = .ok (.iload_n 2, 1) := by decide +kernel
theorem dX14_takes_15 : decode cX14_takes 15 = .ok (.iadd, 1) := by decide +kernel
theorem dX14_takes_16 : decode cX14_takes 16 = .ok (.aload_n 0, 1) := by decide +kernel
theorem dX14_takes_17 : decode cX14_takes 17 = .ok (.getfield 276, 3) := by decide +kernel
theorem dX14_takes_20 : decode cX14_takes 20 = .ok (.if_icmp .ge 22, 3) := by decide +kernel
theorem dX14_takes_23 : decode cX14_takes 23 = .ok (.aload_n 0, 1) := by decide +kernel
theorem dX14_takes_24 : decode cX14_takes 24 = .ok (.getfield 20, 3) := by decide +kernel
theorem dX14_takes_27 : decode cX14_takes 27 = .ok (.aload_n 0, 1) := by decide +kernel
theorem dX14_takes_28 : decode cX14_takes 28 = .ok (.getfield 273, 3) := by decide +kernel
theorem dX14_takes_31 : decode cX14_takes 31 = .ok (.iload_n 2, 1) := by decide +kernel
theorem dX14_takes_32 : decode cX14_takes 32 = .ok (.iadd, 1) := by decide +kernel
theorem dX14_takes_33 : decode cX14_takes 33 = .ok (.iaload, 1) := by decide +kernel
theorem dX14_takes_34 : decode cX14_takes 34 = .ok (.aload_n 1, 1) := by decide +kernel
theorem dX14_takes_35 : decode cX14_takes 35 = .ok (.iload_n 2, 1) := by decide +kernel
theorem dX14_takes_36 : decode cX14_takes 36 = .ok (.invokevirtual 168, 3) := by decide +kernel
theorem dX14_takes_39 : decode cX14_takes 39 = .ok (.if_icmp .eq 5, 3) := by decide +kernel
theorem dX14_takes_42 : decode cX14_takes 42 = .ok (.iconst 0, 1) := by decide +kernel
theorem dX14_takes_43 : decode cX14_takes 43 = .ok (.ireturn, 1) := by decide +kernel
theorem dX14_takes_44 : decode cX14_takes 44 = .ok (.iinc 2 1, 3) := by decide +kernel
theorem dX14_takes_47 : decode cX14_takes 47 = .ok (.goto (-45), 3) := by decide +kernel
theorem dX14_takes_50 : decode cX14_takes 50 = .ok (.aload_n 0, 1) := by decide +kernel
theorem dX14_takes_51 : decode cX14_takes 51 = .ok (.dup, 1) := by decide +kernel
theorem dX14_takes_52 : decode cX14_takes 52 = .ok (.getfield 273, 3) := by decide +kernel
theorem dX14_takes_55 : decode cX14_takes 55 = .ok (.aload_n 1, 1) := by decide +kernel
theorem dX14_takes_56 : decode cX14_takes 56 = .ok (.invokevirtual 163, 3) := by decide +kernel
theorem dX14_takes_59 : decode cX14_takes 59 = .ok (.iadd, 1) := by decide +kernel
theorem dX14_takes_60 : decode cX14_takes 60 = .ok (.putfield 273, 3) := by decide +kernel
theorem dX14_takes_63 : decode cX14_takes 63 = .ok (.iconst 1, 1) := by decide +kernel
theorem dX14_takes_64 : decode cX14_takes 64 = .ok (.ireturn, 1) := by decide +kernel
theorem dX14_digits_0 : decode cX14_digits 0 = .ok (.aload_n 0, 1) := by decide +kernel
theorem dX14_digits_1 : decode cX14_digits 1 = .ok (.invokevirtual 279, 3) := by decide +kernel
theorem dX14_digits_4 : decode cX14_digits 4 = .ok (.invokestatic 224, 3) := by decide +kernel
theorem dX14_digits_7 : decode cX14_digits 7 = .ok (.ifCond .ne 8, 3) := by decide +kernel
theorem dX14_digits_10 : decode cX14_digits 10 = .ok (.aload_n 0, 1) := by decide +kernel
theorem dX14_digits_11 : decode cX14_digits 11 = .ok (.iconst 1, 1) := by decide +kernel
theorem dX14_digits_12 : decode cX14_digits 12 = .ok (.putfield 288, 3) := by decide +kernel
theorem dX14_digits_15 : decode cX14_digits 15 = .ok (.aload_n 0, 1) := by decide +kernel
theorem dX14_digits_16 : decode cX14_digits 16 = .ok (.invokevirtual 279, 3) := by decide +kernel
theorem dX14_digits_19 : decode cX14_digits 19 = .ok (.invokestatic 224, 3) := by decide +kernel
theorem dX14_digits_22 : decode cX14_digits 22 = .ok (.ifCond .eq 16, 3) := by decide +kernel
theorem dX14_digits_25 : decode cX14_digits 25 = .ok (.aload_n 0, 1) := by decide +kernel
theorem dX14_digits_26 : decode cX14_digits 26 = .ok (.dup, 1) := by decide +kernel
theorem dX14_digits_27 : decode cX14_digits 27 = .ok (.getfield 273, 3) := by decide +kernel
theorem dX14_digits_30 : decode cX14_digits 30 = .ok (.iconst 1, 1) := by decide +kernel
theorem dX14_digits_31 : decode cX14_digits 31 = .ok (.iadd, 1) := by decide +kernel
theorem dX14_digits_32 : decode cX14_digits 32 = .ok (.putfield 273, 3) := by decide +kernel
theorem dX14_digits_35 : decode cX14_digits 35 = .ok (.goto (-20), 3) := by decide +kernel
theorem dX14_digits_38 : decode cX14_digits 38 = .ok (.return_, 1) := by decide +kernel
theorem dX14_unit_0 : decode cX14_unit 0 = .ok (.iload_n 1, 1) := by decide +kernel
theorem dX14_unit_1 : decode cX14_unit 1 = .ok (.ldc_w 333, 3) := by decide +kernel
theorem dX14_unit_4 : decode cX14_unit 4 = .ok (.if_icmp .le 57, 3) := by decide +kernel
theorem dX14_unit_7 : decode cX14_unit 7 = .ok (.aload_n 0, 1) := by decide +kernel
theorem dX14_unit_8 : decode cX14_unit 8 = .ok (.getfield 65, 3) := by decide +kernel
theorem dX14_unit_11 : decode cX14_unit 11 = .ok (.aload_n 0, 1) := by decide +kernel
theorem dX14_unit_12 : decode cX14_unit 12 = .ok (.getfield 304, 3) := by decide +kernel
theorem dX14_unit_15 : decode cX14_unit 15 = .ok (.ldc 179, 2) := by decide +kernel
theorem dX14_unit_17 : decode cX14_unit 17 = .ok (.iload_n 1, 1) := by decide +kernel
theorem dX14_unit_18 : decode cX14_unit 18 = .ok (.ldc 197, 2) := by decide +kernel
theorem dX14_unit_20 : decode cX14_unit 20 = .ok (.isub, 1) := by decide +kernel
theorem dX14_unit_21 : decode cX14_unit 21 = .ok (.bipush 10, 2) := by decide +kernel
theorem dX14_unit_23 : decode cX14_unit 23 = .ok (.ishr, 1) := by decide +kernel
theorem dX14_unit_24 : decode cX14_unit 24 = .ok (.iadd, 1) := by decide +kernel
theorem dX14_unit_25 : decode cX14_unit 25 = .ok (.iastore, 1) := by decide +kernel
theorem dX14_unit_26 : decode cX14_unit 26 = .ok (.aload_n 0, 1) := by decide +kernel
theorem dX14_unit_27 : decode cX14_unit 27 = .ok (.getfield 65, 3) := by decide +kernel
theorem dX14_unit_30 : decode cX14_unit 30 = .ok (.aload_n 0, 1) := by decide +kernel
theorem dX14_unit_31 : decode cX14_unit 31 = .ok (.getfield 304, 3) := by decide +kernel
theorem dX14_unit_34 : decode cX14_unit 34 = .ok (.iconst 1, 1) := by decide +kernel
theorem dX14_unit_35 : decode cX14_unit 35 = .ok (.iadd, 1) := by decide +kernel
theorem dX14_unit_36 : decode cX14_unit 36 = .ok (.ldc 185, 2) := by decide +kernel
theorem dX14_unit_38 : decode cX14_unit 38 = .ok (.iload_n 1, 1) := by decide +kernel
theorem dX14_unit_39 : decode cX14_unit 39 = .ok (.ldc 197, 2) := by decide +kernel
theorem dX14_unit_41 : decode cX14_unit 41 = .ok (.isub, 1) := by decide +kernel
theorem dX14_unit_42 : decode cX14_unit 42 = .ok (.sipush 1023, 3) := by decide +kernel
theorem dX14_unit_45 : decode cX14_unit 45 = .ok (.iand, 1) := by decide +kernel
theorem dX14_unit_46 : decode cX14_unit 46 = .ok (.iadd, 1) := by decide +kernel
theorem dX14_unit_47 : decode cX14_unit 47 = .ok (.iastore, 1) := by decide +kernel
theorem dX14_unit_48 : decode cX14_unit 48 = .ok (.aload_n 0, 1) := by decide +kernel
theorem dX14_unit_49 : decode cX14_unit 49 = .ok (.dup, 1) := by decide +kernel
theorem dX14_unit_50 : decode cX14_unit 50 = .ok (.getfield 304, 3) := by decide +kernel
theorem dX14_unit_53 : decode cX14_unit 53 = .ok (.iconst 2, 1) := by decide +kernel
theorem dX14_unit_54 : decode cX14_unit 54 = .ok (.iadd, 1) := by decide +kernel
theorem dX14_unit_55 : decode cX14_unit 55 = .ok (.putfield 304, 3) := by decide +kernel
theorem dX14_unit_58 : decode cX14_unit 58 = .ok (.goto 23, 3) := by decide +kernel
theorem dX14_unit_61 : decode cX14_unit 61 = .ok (.aload_n 0, 1) := by decide +kernel
theorem dX14_unit_62 : decode cX14_unit 62 = .ok (.getfield 65, 3) := by decide +kernel
theorem dX14_unit_65 : decode cX14_unit 65 = .ok (.aload_n 0, 1) := by decide +kernel
theorem dX14_unit_66 : decode cX14_unit 66 = .ok (.getfield 304, 3) := by decide +kernel
theorem dX14_unit_69 : decode cX14_unit 69 = .ok (.iload_n 1, 1) := by decide +kernel
theorem dX14_unit_70 : decode cX14_unit 70 = .ok (.iastore, 1) := by decide +kernel
theorem dX14_unit_71 : decode cX14_unit 71 = .ok (.aload_n 0, 1) := by decide +kernel
theorem dX14_unit_72 : decode cX14_unit 72 = .ok (.dup, 1) := by decide +kernel
theorem dX14_unit_73 : decode cX14_unit 73 = .ok (.getfield 304, 3) := by decide +kernel
theorem dX14_unit_76 : decode cX14_unit 76 = .ok (.iconst 1, 1) := by decide +kernel
theorem dX14_unit_77 : decode cX14_unit 77 = .ok (.iadd, 1) := by decide +kernel
theorem dX14_unit_78 : decode cX14_unit 78 = .ok (.putfield 304, 3) := by decide +kernel
theorem dX14_unit_81 : decode cX14_unit 81 = .ok (.return_, 1) := by decide +kernel
theorem dX14_hexOf_0 : decode cX14_hexOf 0 = .ok (.iload_n 0, 1) := by decide +kernel
theorem dX14_hexOf_1 : decode cX14_hexOf 1 = .ok (.invokestatic 224, 3) := by decide +kernel
theorem dX14_hexOf_4 : decode cX14_hexOf 4 = .ok (.ifCond .eq 10, 3) := by decide +kernel
theorem dX14_hexOf_7 : decode cX14_hexOf 7 = .ok (.iload_n 0, 1) := by decide +kernel
theorem dX14_hexOf_8 : decode cX14_hexOf 8 = .ok (.bipush 48, 2) := by decide +kernel
theorem dX14_hexOf_10 : decode cX14_hexOf 10 = .ok (.isub, 1) := by decide +kernel
theorem dX14_hexOf_11 : decode cX14_hexOf 11 = .ok (.goto 46, 3) := by decide +kernel
theorem dX14_hexOf_14 : decode cX14_hexOf 14 = .ok (.iload_n 0, 1) := by decide +kernel
theorem dX14_hexOf_15 : decode cX14_hexOf 15 = .ok (.bipush 97, 2) := by decide +kernel
theorem dX14_hexOf_17 : decode cX14_hexOf 17 = .ok (.bipush 102, 2) := by decide +kernel
theorem dX14_hexOf_19 : decode cX14_hexOf 19 = .ok (.invokestatic 181, 3) := by decide +kernel
theorem dX14_hexOf_22 : decode cX14_hexOf 22 = .ok (.ifCond .eq 13, 3) := by decide +kernel
theorem dX14_hexOf_25 : decode cX14_hexOf 25 = .ok (.iload_n 0, 1) := by decide +kernel
theorem dX14_hexOf_26 : decode cX14_hexOf 26 = .ok (.bipush 97, 2) := by decide +kernel
theorem dX14_hexOf_28 : decode cX14_hexOf 28 = .ok (.isub, 1) := by decide +kernel
theorem dX14_hexOf_29 : decode cX14_hexOf 29 = .ok (.bipush 10, 2) := by decide +kernel
theorem dX14_hexOf_31 : decode cX14_hexOf 31 = .ok (.iadd, 1) := by decide +kernel
theorem dX14_hexOf_32 : decode cX14_hexOf 32 = .ok (.goto 25, 3) := by decide +kernel
theorem dX14_hexOf_35 : decode cX14_hexOf 35 = .ok (.iload_n 0, 1) := by decide +kernel
theorem dX14_hexOf_36 : decode cX14_hexOf 36 = .ok (.bipush 65, 2) := by decide +kernel
theorem dX14_hexOf_38 : decode cX14_hexOf 38 = .ok (.bipush 70, 2) := by decide +kernel
theorem dX14_hexOf_40 : decode cX14_hexOf 40 = .ok (.invokestatic 181, 3) := by decide +kernel
theorem dX14_hexOf_43 : decode cX14_hexOf 43 = .ok (.ifCond .eq 13, 3) := by decide +kernel
theorem dX14_hexOf_46 : decode cX14_hexOf 46 = .ok (.iload_n 0, 1) := by decide +kernel
theorem dX14_hexOf_47 : decode cX14_hexOf 47 = .ok (.bipush 65, 2) := by decide +kernel
theorem dX14_hexOf_49 : decode cX14_hexOf 49 = .ok (.isub, 1) := by decide +kernel
theorem dX14_hexOf_50 : decode cX14_hexOf 50 = .ok (.bipush 10, 2) := by decide +kernel
theorem dX14_hexOf_52 : decode cX14_hexOf 52 = .ok (.iadd, 1) := by decide +kernel
theorem dX14_hexOf_53 : decode cX14_hexOf 53 = .ok (.goto 4, 3) := by decide +kernel
theorem dX14_hexOf_56 : decode cX14_hexOf 56 = .ok (.iconst (-1), 1) := by decide +kernel
theorem dX14_hexOf_57 : decode cX14_hexOf 57 = .ok (.ireturn, 1) := by decide +kernel
theorem dX14_four_0 : decode cX14_four 0 = .ok (.iconst 0, 1) := by decide +kernel
theorem dX14_four_1 : decode cX14_four 1 = .ok (.istore_n 1, 1) := by decide +kernel
theorem dX14_four_2 : decode cX14_four 2 = .ok (.iconst 0, 1) := by decide +kernel
theorem dX14_four_3 : decode cX14_four 3 = .ok (.istore_n 2, 1) := by decide +kernel
theorem dX14_four_4 : decode cX14_four 4 = .ok (.iload_n 2, 1) := by decide +kernel
theorem dX14_four_5 : decode cX14_four 5 = .ok (.iconst 4, 1) := by decide +kernel
theorem dX14_four_6 : decode cX14_four 6 = .ok (.if_icmp .ge 45, 3) := by decide +kernel
theorem dX14_four_9 : decode cX14_four 9 = .ok (.aload_n 0, 1) := by decide +kernel
theorem dX14_four_10 : decode cX14_four 10 = .ok (.invokevirtual 279, 3) := by decide +kernel
theorem dX14_four_13 : decode cX14_four 13 = .ok (.invokestatic 334, 3) := by decide +kernel
theorem dX14_four_16 : decode cX14_four 16 = .ok (.istore_n 3, 1) := by decide +kernel
theorem dX14_four_17 : decode cX14_four 17 = .ok (.iload_n 3, 1) := by decide +kernel
theorem dX14_four_18 : decode cX14_four 18 = .ok (.ifCond .ge 10, 3) := by decide +kernel
theorem dX14_four_21 : decode cX14_four 21 = .ok (.aload_n 0, 1) := by decide +kernel
theorem dX14_four_22 : decode cX14_four 22 = .ok (.iconst 1, 1) := by decide +kernel
theorem dX14_four_23 : decode cX14_four 23 = .ok (.putfield 288, 3) := by decide +kernel
theorem dX14_four_26 : decode cX14_four 26 = .ok (.iconst (-1), 1) := by decide +kernel
theorem dX14_four_27 : decode cX14_four 27 = .ok (.ireturn, 1) := by decide +kernel
theorem dX14_four_28 : decode cX14_four 28 = .ok (.bipush 16, 2) := by decide +kernel
theorem dX14_four_30 : decode cX14_four 30 = .ok (.iload_n 1, 1) := by decide +kernel
theorem dX14_four_31 : decode cX14_four 31 = .ok (.imul, 1) := by decide +kernel
theorem dX14_four_32 : decode cX14_four 32 = .ok (.iload_n 3, 1) := by decide +kernel
theorem dX14_four_33 : decode cX14_four 33 = .ok (.iadd, 1) := by decide +kernel
theorem dX14_four_34 : decode cX14_four 34 = .ok (.istore_n 1, 1) := by decide +kernel
theorem dX14_four_35 : decode cX14_four 35 = .ok (.aload_n 0, 1) := by decide +kernel
theorem dX14_four_36 : decode cX14_four 36 = .ok (.dup, 1) := by decide +kernel
theorem dX14_four_37 : decode cX14_four 37 = .ok (.getfield 273, 3) := by decide +kernel
theorem dX14_four_40 : decode cX14_four 40 = .ok (.iconst 1, 1) := by decide +kernel
theorem dX14_four_41 : decode cX14_four 41 = .ok (.iadd, 1) := by decide +kernel
theorem dX14_four_42 : decode cX14_four 42 = .ok (.putfield 273, 3) := by decide +kernel
theorem dX14_four_45 : decode cX14_four 45 = .ok (.iinc 2 1, 3) := by decide +kernel
theorem dX14_four_48 : decode cX14_four 48 = .ok (.goto (-44), 3) := by decide +kernel
theorem dX14_four_51 : decode cX14_four 51 = .ok (.iload_n 1, 1) := by decide +kernel
theorem dX14_four_52 : decode cX14_four 52 = .ok (.ireturn, 1) := by decide +kernel
def EX14_in : List (Nat × Nat) := []
def EX14_isDigit : List (Nat × Nat) := []
def EX14_isLetter : List (Nat × Nat) := []
def EX14_hexOf : List (Nat × Nat) := []
def EX14_here : List (Nat × Nat) := []
def EX14_blanks : List (Nat × Nat) := [(16, 29)]
def EX14_takes : List (Nat × Nat) := [(16, 29)]
def EX14_digits : List (Nat × Nat) := [(16, 29), (16, 31)]
def EX14_unit : List (Nat × Nat) := [(16, 28), (127, 0)]
def EX14_four : List (Nat × Nat) := [(16, 29), (16, 31)]
set_option maxHeartbeats 4000000 in
set_option maxRecDepth 20000 in
theorem uX14_in (l : Launch) (dC : Nat → ClassId) (dI : Nat → Nat → Nat) (ca : Nat → ClassId) (base : Nat) (B : jF) (hB : jBok B) (hAp : jAp (dC, dI)) (G0 : jT) (H0 : Heap) (a0 : Int32) (a1 : Int32) (a2 : Int32) : Met l yX14_in (jw yX14_in cX14_in 3 (some .boolean)) ({ frames := 0, cells := 0, slots := 0, locals := 0 }) (va_Pc [.int a0, .int a1, .int a2] (fun U => U.heap = H0 ∧ jX B base G0 [] H0 ∧ jG dC dI ca base U ∧ jP (dC, dI) G0 H0 [] ∧ True)) (va_Qi (S := Unit) (fun r u => (r = 0 ∨ r = 1) ∧ (a1.toInt ≤ a0.toInt + 4294967296 * (1 - r.toInt) ∧ a0.toInt ≤ a2.toInt + 4294967296 * (1 - r.toInt) ∧ r.toInt = jIn a0.toInt a1.toInt a2.toInt)) (fun u t => jRt (dC, dI) B base G0 EX14_in H0 [] t.heap) (jA base)) 0 0 (jA base) := by
  refine Met.ofW (cc := cX14_in) (maxL := 3) (ret := (some .boolean)) (by decide) rfl ?_
  intro p e s m args below meth c s₁ Bd hml hv
  obtain ⟨rfl, hH0, hX, hG, hP0, hp0⟩ := hv
  have hK := hG.1
  have hx := Bd.exec
  have hb := Bd.bytes
  have hr := Bd.returns
  have hts := atoms_spec (ws := (jw yX14_in cX14_in 3 (some .boolean))) Bd.pre
  have htw : ∀ w ∈ jWl, w.before _ s = true := fun w h => hts w (List.mem_cons_of_mem _ h)
  have hown : s.vm.findClass RX14 = some m.cls := findClass_of_methodNamed Bd.named
  have hlocks := Bd.notSynchronized
  obtain ⟨Q, hQ⟩ : ∃ Q, Q = MQ below (va_Qi (S := Unit) (fun r u => (r = 0 ∨ r = 1) ∧ (a1.toInt ≤ a0.toInt + 4294967296 * (1 - r.toInt) ∧ a0.toInt ≤ a2.toInt + 4294967296 * (1 - r.toInt) ∧ r.toInt = jIn a0.toInt a1.toInt a2.toInt)) (fun u t => jRt (dC, dI) B base G0 EX14_in H0 [] t.heap) (jA base)) ([.int a0, .int a1, .int a2] : List Value).toArray s 0 0 (jA base) := ⟨_, rfl⟩
  rw [← hQ]
  have hl := lv_entry ([.int a0, .int a1, .int a2]) (n := 3) (Nat.le_of_ble_eq_true rfl)
  rw [lg_entry_eq]
  generalize (lg_sl ([.int a0, .int a1, .int a2]) ++ List.replicate (3 - (lg_sl ([.int a0, .int a1, .int a2])).length) Slot.unset).toArray = ls at hl ⊢
  have hl : lv_has ls 3 [(0, .int a0), (1, .int a1), (2, .int a2)] := hl
  generalize hR : (headSpec (jw yX14_in cX14_in 3 (some .boolean)) ({ frames := 0, cells := 0, slots := 0, locals := 0 })).room = R
  subst hH0
  have hh : jSt (dC, dI) B base G0 G0 EX14_in s.heap 0 0 [] [] [] s.heap [] := jSt.start hX hP0 jMc.nil jIs.nil
  clear hX hP0
  have hk0 : (0 : Int32).toInt = 0 := by decide
  have hk1 : (1 : Int32).toInt = 1 := by decide
  have hrg_a0 := jb_rng a0
  have hrg_a1 := jb_rng a1
  have hrg_a2 := jb_rng a2
  refine lv_iload_n hx hb dX14_in_0 rfl (lv_at hl 0 rfl) ?_
  refine lv_iload_n hx hb dX14_in_1 rfl (lv_at hl 1 rfl) ?_
  refine lv_icmp_lt (tgt := 14) hx hb dX14_in_2 (by decide) (fun c_1 => ?_) (fun c_1 => ?_)
  · skip
    have c_1' : a0.toInt < a1.toInt := jb_lt (rfl) (rfl) c_1
    refine lv_iconst (v := 0) hx hb dX14_in_14 (by decide) ?_
    rw [hQ]
    exact W.zret (v := 0) hx hb hr (jb_nz (Or.inl rfl)) (fun t ht hW => ⟨⟨0, (), rfl, ⟨(Or.inl rfl), by refine ⟨by omega, by omega, by unfold jIn; first | (rw [if_pos (by omega)]; decide) | (rw [if_neg (by omega)]; decide)⟩⟩, hh.rt (M1 := []) [] rfl ht⟩, by rw [ht]; try exact hh.1.1, fun q h9 hq => by rw [ht]; try exact hh.1.2.1 q h9 hq⟩) hh.1.2.2 dX14_in_15
  · skip
    have c_1' : a0.toInt ≥ a1.toInt := jb_lt_n (rfl) (rfl) c_1
    refine lv_iload_n hx hb dX14_in_5 rfl (lv_at hl 0 rfl) ?_
    refine lv_iload_n hx hb dX14_in_6 rfl (lv_at hl 2 rfl) ?_
    refine lv_icmp_gt (tgt := 14) hx hb dX14_in_7 (by decide) (fun c_2 => ?_) (fun c_2 => ?_)
    · skip
      have c_2' : a0.toInt > a2.toInt := jb_gt (rfl) (rfl) c_2
      refine lv_iconst (v := 0) hx hb dX14_in_14 (by decide) ?_
      rw [hQ]
      exact W.zret (v := 0) hx hb hr (jb_nz (Or.inl rfl)) (fun t ht hW => ⟨⟨0, (), rfl, ⟨(Or.inl rfl), by refine ⟨by omega, by omega, by unfold jIn; first | (rw [if_pos (by omega)]; decide) | (rw [if_neg (by omega)]; decide)⟩⟩, hh.rt (M1 := []) [] rfl ht⟩, by rw [ht]; try exact hh.1.1, fun q h9 hq => by rw [ht]; try exact hh.1.2.1 q h9 hq⟩) hh.1.2.2 dX14_in_15
    · skip
      have c_2' : a0.toInt ≤ a2.toInt := jb_gt_n (rfl) (rfl) c_2
      refine lv_iconst (v := 1) hx hb dX14_in_10 (by decide) ?_
      refine lv_goto (tgt := 15) hx hb dX14_in_11 (by decide) ?_
      rw [hQ]
      exact W.zret (v := 1) hx hb hr (jb_nz (Or.inr rfl)) (fun t ht hW => ⟨⟨1, (), rfl, ⟨(Or.inr rfl), by refine ⟨by omega, by omega, by unfold jIn; first | (rw [if_pos (by omega)]; decide) | (rw [if_neg (by omega)]; decide)⟩⟩, hh.rt (M1 := []) [] rfl ht⟩, by rw [ht]; try exact hh.1.1, fun q h9 hq => by rw [ht]; try exact hh.1.2.1 q h9 hq⟩) hh.1.2.2 dX14_in_15
set_option maxHeartbeats 4000000 in
set_option maxRecDepth 20000 in
theorem uX14_isDigit (l : Launch) (dC : Nat → ClassId) (dI : Nat → Nat → Nat) (ca : Nat → ClassId) (base : Nat) (B : jF) (hB : jBok B) (hAp : jAp (dC, dI)) (G0 : jT) (H0 : Heap) (a0 : Int32) : Met l yX14_isDigit (jw yX14_isDigit cX14_isDigit 1 (some .boolean)) ({ frames := 1, cells := 0, slots := 0, locals := 22 }) (va_Pc [.int a0] (fun U => U.heap = H0 ∧ jX B base G0 [] H0 ∧ jG dC dI ca base U ∧ jP (dC, dI) G0 H0 [] ∧ True)) (va_Qi (S := Unit) (fun r u => (r = 0 ∨ r = 1) ∧ (48 ≤ a0.toInt + 4294967296 * (1 - r.toInt) ∧ a0.toInt ≤ 57 + 4294967296 * (1 - r.toInt))) (fun u t => jRt (dC, dI) B base G0 EX14_isDigit H0 [] t.heap) (jA base)) 0 0 (jA base) := by
  refine Met.ofW (cc := cX14_isDigit) (maxL := 1) (ret := (some .boolean)) (by decide) rfl ?_
  intro p e s m args below meth c s₁ Bd hml hv
  obtain ⟨rfl, hH0, hX, hG, hP0, hp0⟩ := hv
  have hK := hG.1
  have hx := Bd.exec
  have hb := Bd.bytes
  have hr := Bd.returns
  have hts := atoms_spec (ws := (jw yX14_isDigit cX14_isDigit 1 (some .boolean))) Bd.pre
  have htw : ∀ w ∈ jWl, w.before _ s = true := fun w h => hts w (List.mem_cons_of_mem _ h)
  have hown : s.vm.findClass RX14 = some m.cls := findClass_of_methodNamed Bd.named
  have hlocks := Bd.notSynchronized
  obtain ⟨Q, hQ⟩ : ∃ Q, Q = MQ below (va_Qi (S := Unit) (fun r u => (r = 0 ∨ r = 1) ∧ (48 ≤ a0.toInt + 4294967296 * (1 - r.toInt) ∧ a0.toInt ≤ 57 + 4294967296 * (1 - r.toInt))) (fun u t => jRt (dC, dI) B base G0 EX14_isDigit H0 [] t.heap) (jA base)) ([.int a0] : List Value).toArray s 0 0 (jA base) := ⟨_, rfl⟩
  rw [← hQ]
  have hl := lv_entry ([.int a0]) (n := 1) (Nat.le_of_ble_eq_true rfl)
  rw [lg_entry_eq]
  generalize (lg_sl ([.int a0]) ++ List.replicate (1 - (lg_sl ([.int a0])).length) Slot.unset).toArray = ls at hl ⊢
  have hl : lv_has ls 1 [(0, .int a0)] := hl
  generalize hR : (headSpec (jw yX14_isDigit cX14_isDigit 1 (some .boolean)) ({ frames := 1, cells := 0, slots := 0, locals := 22 })).room = R
  subst hH0
  have hh : jSt (dC, dI) B base G0 G0 EX14_isDigit s.heap 0 0 [] [] [] s.heap [] := jSt.start hX hP0 jMc.nil jIs.nil
  clear hX hP0
  have hk0 : (0 : Int32).toInt = 0 := by decide
  have hk1 : (1 : Int32).toInt = 1 := by decide
  have hk48 : (48 : Int32).toInt = 48 := by decide
  have hk57 : (57 : Int32).toInt = 57 := by decide
  have hrg_a0 := jb_rng a0
  refine lv_iload_n hx hb dX14_isDigit_0 rfl (lv_at hl 0 rfl) ?_
  refine lv_bipush (v := 48) hx hb dX14_isDigit_1 (by decide) ?_
  refine lv_bipush (v := 57) hx hb dX14_isDigit_3 (by decide) ?_
  refine va_calli (A0 := jA base) (H0 := s.heap) (va_runS (As := [.int a0, .int 48, .int 57]) (rest := []) ⟨hx, hb, hml, hown, hts⟩ (uX14_in l dC dI ca base B hB hAp G0 s.heap a0 48 57) (va_cwS 3 hts (jgS (jWr_48 _ (List.mem_of_getElem? (i := 10) rfl)) (jWr_48 _ (List.mem_of_getElem? (i := 11) rfl)) (jWr_1 _ (List.mem_of_getElem? (i := 5) rfl)) (jWr_48 _ (List.mem_of_getElem? (i := 12) rfl))) rfl rfl rfl (by decide +kernel) ⟨by rw [← hR]; exact Nat.le_of_ble_eq_true rfl, by rw [← hR]; exact Nat.le_of_ble_eq_true rfl⟩) ⟨fun a U g mk q => by obtain ⟨q0, q1, q2, qK, q10, q11⟩ := q; exact ⟨q0, q1, q2, jG.calling g mk a qK, q10, q11⟩, fun U hU hW => ⟨rfl, hU, hh.2.1, hG.step hW hU hh.1, jP.nil, trivial⟩⟩ rfl rfl hl.1 rfl (lv_room (Nat.le_of_ble_eq_true rfl)) dX14_isDigit_5 ⟨Nat.zero_le _, Nat.zero_le _⟩) hh.1 (fun q _ h => h) (fun q h => h) (fun r_2 u_1 t_1 H_1 locs_1 ht_1 hvm_1 hr_2 hb_1 hz_1 hk_1 hS_1 => ?_)
  rw [ht_1] at hb_1
  obtain ⟨hb_11, hb_12, hb_13, hb_14, hb_15⟩ := hb_1
  have hh_1 : jSt (dC, dI) B base G0 G0 EX14_isDigit s.heap 0 0 [] [] [] H_1 locs_1 := ((hh.call hb_11 hb_12 hb_13 hb_14 hS_1 rfl (L1 := []) [] rfl rfl (M1 := []) [] rfl rfl (I1 := []) [] rfl rfl).more hb_15)
  clear hh ht_1 hvm_1 hz_1 hk_1 hS_1 hb_11 hb_12 hb_13 hb_14 hb_15
  obtain ⟨hr_2b, hr_2p⟩ := hr_2
  obtain ⟨hr_2p_0, hr_2p_1, hr_2p_2⟩ := hr_2p
  have hr_2' := jb_01 hr_2b
  rw [hQ]
  exact W.zret (v := r_2) hx hb hr (jb_nz (hr_2b)) (fun t ht hW => ⟨⟨r_2, (), rfl, ⟨(hr_2b), by first | omega | (refine ⟨?_, ?_⟩ <;> (first | omega | rfl | assumption | decide | exact Or.inl rfl | exact Or.inr rfl | (simp only; omega)))⟩, hh_1.rt (M1 := []) [] rfl ht⟩, by rw [ht]; try exact hh_1.1.1, fun q h9 hq => by rw [ht]; try exact hh_1.1.2.1 q h9 hq⟩) hh_1.1.2.2 dX14_isDigit_8
set_option maxHeartbeats 4000000 in
set_option maxRecDepth 20000 in
theorem uX14_isLetter (l : Launch) (dC : Nat → ClassId) (dI : Nat → Nat → Nat) (ca : Nat → ClassId) (base : Nat) (B : jF) (hB : jBok B) (hAp : jAp (dC, dI)) (G0 : jT) (H0 : Heap) (a0 : Int32) : Met l yX14_isLetter (jw yX14_isLetter cX14_isLetter 1 (some .boolean)) ({ frames := 1, cells := 0, slots := 0, locals := 22 }) (va_Pc [.int a0] (fun U => U.heap = H0 ∧ jX B base G0 [] H0 ∧ jG dC dI ca base U ∧ jP (dC, dI) G0 H0 [] ∧ True)) (va_Qi (S := Unit) (fun r u => (r = 0 ∨ r = 1) ∧ (True)) (fun u t => jRt (dC, dI) B base G0 EX14_isLetter H0 [] t.heap) (jA base)) 0 0 (jA base) := by
  refine Met.ofW (cc := cX14_isLetter) (maxL := 1) (ret := (some .boolean)) (by decide) rfl ?_
  intro p e s m args below meth c s₁ Bd hml hv
  obtain ⟨rfl, hH0, hX, hG, hP0, hp0⟩ := hv
  have hK := hG.1
  have hx := Bd.exec
  have hb := Bd.bytes
  have hr := Bd.returns
  have hts := atoms_spec (ws := (jw yX14_isLetter cX14_isLetter 1 (some .boolean))) Bd.pre
  have htw : ∀ w ∈ jWl, w.before _ s = true := fun w h => hts w (List.mem_cons_of_mem _ h)
  have hown : s.vm.findClass RX14 = some m.cls := findClass_of_methodNamed Bd.named
  have hlocks := Bd.notSynchronized
  obtain ⟨Q, hQ⟩ : ∃ Q, Q = MQ below (va_Qi (S := Unit) (fun r u => (r = 0 ∨ r = 1) ∧ (True)) (fun u t => jRt (dC, dI) B base G0 EX14_isLetter H0 [] t.heap) (jA base)) ([.int a0] : List Value).toArray s 0 0 (jA base) := ⟨_, rfl⟩
  rw [← hQ]
  have hl := lv_entry ([.int a0]) (n := 1) (Nat.le_of_ble_eq_true rfl)
  rw [lg_entry_eq]
  generalize (lg_sl ([.int a0]) ++ List.replicate (1 - (lg_sl ([.int a0])).length) Slot.unset).toArray = ls at hl ⊢
  have hl : lv_has ls 1 [(0, .int a0)] := hl
  generalize hR : (headSpec (jw yX14_isLetter cX14_isLetter 1 (some .boolean)) ({ frames := 1, cells := 0, slots := 0, locals := 22 })).room = R
  subst hH0
  have hh : jSt (dC, dI) B base G0 G0 EX14_isLetter s.heap 0 0 [] [] [] s.heap [] := jSt.start hX hP0 jMc.nil jIs.nil
  clear hX hP0
  have hk0 : (0 : Int32).toInt = 0 := by decide
  have hk1 : (1 : Int32).toInt = 1 := by decide
  have hk65 : (65 : Int32).toInt = 65 := by decide
  have hk90 : (90 : Int32).toInt = 90 := by decide
  have hk97 : (97 : Int32).toInt = 97 := by decide
  have hk122 : (122 : Int32).toInt = 122 := by decide
  have hrg_a0 := jb_rng a0
  refine lv_iload_n hx hb dX14_isLetter_0 rfl (lv_at hl 0 rfl) ?_
  refine lv_bipush (v := 97) hx hb dX14_isLetter_1 (by decide) ?_
  refine lv_bipush (v := 122) hx hb dX14_isLetter_3 (by decide) ?_
  refine va_calli (A0 := jA base) (H0 := s.heap) (va_runS (As := [.int a0, .int 97, .int 122]) (rest := []) ⟨hx, hb, hml, hown, hts⟩ (uX14_in l dC dI ca base B hB hAp G0 s.heap a0 97 122) (va_cwS 3 hts (jgS (jWr_48 _ (List.mem_of_getElem? (i := 10) rfl)) (jWr_48 _ (List.mem_of_getElem? (i := 11) rfl)) (jWr_1 _ (List.mem_of_getElem? (i := 5) rfl)) (jWr_48 _ (List.mem_of_getElem? (i := 12) rfl))) rfl rfl rfl (by decide +kernel) ⟨by rw [← hR]; exact Nat.le_of_ble_eq_true rfl, by rw [← hR]; exact Nat.le_of_ble_eq_true rfl⟩) ⟨fun a U g mk q => by obtain ⟨q0, q1, q2, qK, q10, q11⟩ := q; exact ⟨q0, q1, q2, jG.calling g mk a qK, q10, q11⟩, fun U hU hW => ⟨rfl, hU, hh.2.1, hG.step hW hU hh.1, jP.nil, trivial⟩⟩ rfl rfl hl.1 rfl (lv_room (Nat.le_of_ble_eq_true rfl)) dX14_isLetter_5 ⟨Nat.zero_le _, Nat.zero_le _⟩) hh.1 (fun q _ h => h) (fun q h => h) (fun r_2 u_1 t_1 H_1 locs_1 ht_1 hvm_1 hr_2 hb_1 hz_1 hk_1 hS_1 => ?_)
  rw [ht_1] at hb_1
  obtain ⟨hb_11, hb_12, hb_13, hb_14, hb_15⟩ := hb_1
  have hh_1 : jSt (dC, dI) B base G0 G0 EX14_isLetter s.heap 0 0 [] [] [] H_1 locs_1 := ((hh.call hb_11 hb_12 hb_13 hb_14 hS_1 rfl (L1 := []) [] rfl rfl (M1 := []) [] rfl rfl (I1 := []) [] rfl rfl).more hb_15)
  clear hh ht_1 hvm_1 hz_1 hk_1 hS_1 hb_11 hb_12 hb_13 hb_14 hb_15
  obtain ⟨hr_2b, hr_2p⟩ := hr_2
  obtain ⟨hr_2p_0, hr_2p_1, hr_2p_2⟩ := hr_2p
  have hr_2' := jb_01 hr_2b
  refine lv_if_ne (tgt := 22) hx hb dX14_isLetter_8 (by decide) (fun c_3 => ?_) (fun c_3 => ?_)
  · skip
    have c_3' : r_2.toInt ≠ 0 := jb_ne (rfl) ((by decide)) c_3
    refine lv_iconst (v := 1) hx hb dX14_isLetter_22 (by decide) ?_
    refine lv_goto (tgt := 27) hx hb dX14_isLetter_23 (by decide) ?_
    rw [hQ]
    exact W.zret (v := 1) hx hb hr (jb_nz (Or.inr rfl)) (fun t ht hW => ⟨⟨1, (), rfl, ⟨(Or.inr rfl), trivial⟩, hh_1.rt (M1 := []) [] rfl ht⟩, by rw [ht]; try exact hh_1.1.1, fun q h9 hq => by rw [ht]; try exact hh_1.1.2.1 q h9 hq⟩) hh_1.1.2.2 dX14_isLetter_27
  · skip
    have c_3' : r_2.toInt = 0 := jb_ne_n (rfl) ((by decide)) c_3
    refine lv_iload_n hx hb dX14_isLetter_11 rfl (lv_at hl 0 rfl) ?_
    refine lv_bipush (v := 65) hx hb dX14_isLetter_12 (by decide) ?_
    refine lv_bipush (v := 90) hx hb dX14_isLetter_14 (by decide) ?_
    refine va_calli (A0 := jA base) (H0 := s.heap) (va_runS (As := [.int a0, .int 65, .int 90]) (rest := []) ⟨hx, hb, hml, hown, hts⟩ (uX14_in l dC dI ca base B hB hAp G0 H_1 a0 65 90) (va_cwS 3 hts (jgS (jWr_48 _ (List.mem_of_getElem? (i := 10) rfl)) (jWr_48 _ (List.mem_of_getElem? (i := 11) rfl)) (jWr_1 _ (List.mem_of_getElem? (i := 5) rfl)) (jWr_48 _ (List.mem_of_getElem? (i := 12) rfl))) rfl rfl rfl (by decide +kernel) ⟨by rw [← hR]; exact Nat.le_of_ble_eq_true rfl, by rw [← hR]; exact Nat.le_of_ble_eq_true rfl⟩) ⟨fun a U g mk q => by obtain ⟨q0, q1, q2, qK, q10, q11⟩ := q; exact ⟨q0, q1, q2, jG.calling g mk a qK, q10, q11⟩, fun U hU hW => ⟨rfl, hU, hh_1.2.1, hG.step hW hU hh_1.1, jP.nil, trivial⟩⟩ rfl rfl hl.1 rfl (lv_room (Nat.le_of_ble_eq_true rfl)) dX14_isLetter_16 ⟨Nat.zero_le _, Nat.zero_le _⟩) hh_1.1 (fun q _ h => h) (fun q h => h) (fun r_5 u_4 t_4 H_4 locs_4 ht_4 hvm_4 hr_5 hb_4 hz_4 hk_4 hS_4 => ?_)
    rw [ht_4] at hb_4
    obtain ⟨hb_41, hb_42, hb_43, hb_44, hb_45⟩ := hb_4
    have hh_4 : jSt (dC, dI) B base G0 G0 EX14_isLetter s.heap 0 0 [] [] [] H_4 locs_4 := ((hh_1.call hb_41 hb_42 hb_43 hb_44 hS_4 rfl (L1 := []) [] rfl rfl (M1 := []) [] rfl rfl (I1 := []) [] rfl rfl).more hb_45)
    clear hh_1 ht_4 hvm_4 hz_4 hk_4 hS_4 hb_41 hb_42 hb_43 hb_44 hb_45
    obtain ⟨hr_5b, hr_5p⟩ := hr_5
    obtain ⟨hr_5p_0, hr_5p_1, hr_5p_2⟩ := hr_5p
    have hr_5' := jb_01 hr_5b
    refine lv_if_eq (tgt := 26) hx hb dX14_isLetter_19 (by decide) (fun c_6 => ?_) (fun c_6 => ?_)
    · skip
      have c_6' : r_5.toInt = 0 := jb_eq (rfl) ((by decide)) c_6
      refine lv_iconst (v := 0) hx hb dX14_isLetter_26 (by decide) ?_
      rw [hQ]
      exact W.zret (v := 0) hx hb hr (jb_nz (Or.inl rfl)) (fun t ht hW => ⟨⟨0, (), rfl, ⟨(Or.inl rfl), trivial⟩, hh_4.rt (M1 := []) [] rfl ht⟩, by rw [ht]; try exact hh_4.1.1, fun q h9 hq => by rw [ht]; try exact hh_4.1.2.1 q h9 hq⟩) hh_4.1.2.2 dX14_isLetter_27
    · skip
      have c_6' : r_5.toInt ≠ 0 := jb_eq_n (rfl) ((by decide)) c_6
      refine lv_iconst (v := 1) hx hb dX14_isLetter_22 (by decide) ?_
      refine lv_goto (tgt := 27) hx hb dX14_isLetter_23 (by decide) ?_
      rw [hQ]
      exact W.zret (v := 1) hx hb hr (jb_nz (Or.inr rfl)) (fun t ht hW => ⟨⟨1, (), rfl, ⟨(Or.inr rfl), trivial⟩, hh_4.rt (M1 := []) [] rfl ht⟩, by rw [ht]; try exact hh_4.1.1, fun q h9 hq => by rw [ht]; try exact hh_4.1.2.1 q h9 hq⟩) hh_4.1.2.2 dX14_isLetter_27
set_option maxHeartbeats 4000000 in
set_option maxRecDepth 20000 in
theorem uX14_hexOf (l : Launch) (dC : Nat → ClassId) (dI : Nat → Nat → Nat) (ca : Nat → ClassId) (base : Nat) (B : jF) (hB : jBok B) (hAp : jAp (dC, dI)) (G0 : jT) (H0 : Heap) (a0 : Int32) : Met l yX14_hexOf (jw yX14_hexOf cX14_hexOf 1 (some .int)) ({ frames := 2, cells := 0, slots := 0, locals := 42 }) (va_Pc [.int a0] (fun U => U.heap = H0 ∧ jX B base G0 [] H0 ∧ jG dC dI ca base U ∧ jP (dC, dI) G0 H0 [] ∧ True)) (va_Qi (S := Unit) (fun r u => (-1 ≤ r.toInt ∧ r.toInt ≤ 15 ∧ (r.toInt = -1 ∨ 48 ≤ a0.toInt))) (fun u t => jRt (dC, dI) B base G0 EX14_hexOf H0 [] t.heap) (jA base)) 0 0 (jA base) := by
  refine Met.ofW (cc := cX14_hexOf) (maxL := 1) (ret := (some .int)) (by decide) rfl ?_
  intro p e s m args below meth c s₁ Bd hml hv
  obtain ⟨rfl, hH0, hX, hG, hP0, hp0⟩ := hv
  have hK := hG.1
  have hx := Bd.exec
  have hb := Bd.bytes
  have hr := Bd.returns
  have hts := atoms_spec (ws := (jw yX14_hexOf cX14_hexOf 1 (some .int))) Bd.pre
  have htw : ∀ w ∈ jWl, w.before _ s = true := fun w h => hts w (List.mem_cons_of_mem _ h)
  have hown : s.vm.findClass RX14 = some m.cls := findClass_of_methodNamed Bd.named
  have hlocks := Bd.notSynchronized
  obtain ⟨Q, hQ⟩ : ∃ Q, Q = MQ below (va_Qi (S := Unit) (fun r u => (-1 ≤ r.toInt ∧ r.toInt ≤ 15 ∧ (r.toInt = -1 ∨ 48 ≤ a0.toInt))) (fun u t => jRt (dC, dI) B base G0 EX14_hexOf H0 [] t.heap) (jA base)) ([.int a0] : List Value).toArray s 0 0 (jA base) := ⟨_, rfl⟩
  rw [← hQ]
  have hl := lv_entry ([.int a0]) (n := 1) (Nat.le_of_ble_eq_true rfl)
  rw [lg_entry_eq]
  generalize (lg_sl ([.int a0]) ++ List.replicate (1 - (lg_sl ([.int a0])).length) Slot.unset).toArray = ls at hl ⊢
  have hl : lv_has ls 1 [(0, .int a0)] := hl
  generalize hR : (headSpec (jw yX14_hexOf cX14_hexOf 1 (some .int)) ({ frames := 2, cells := 0, slots := 0, locals := 42 })).room = R
  subst hH0
  have hh : jSt (dC, dI) B base G0 G0 EX14_hexOf s.heap 0 0 [] [] [] s.heap [] := jSt.start hX hP0 jMc.nil jIs.nil
  clear hX hP0
  have hkm1 : ((-1) : Int32).toInt = (-1) := by decide
  have hk0 : (0 : Int32).toInt = 0 := by decide
  have hk1 : (1 : Int32).toInt = 1 := by decide
  have hk10 : (10 : Int32).toInt = 10 := by decide
  have hk48 : (48 : Int32).toInt = 48 := by decide
  have hk65 : (65 : Int32).toInt = 65 := by decide
  have hk70 : (70 : Int32).toInt = 70 := by decide
  have hk97 : (97 : Int32).toInt = 97 := by decide
  have hk102 : (102 : Int32).toInt = 102 := by decide
  have hrg_a0 := jb_rng a0
  refine lv_iload_n hx hb dX14_hexOf_0 rfl (lv_at hl 0 rfl) ?_
  refine va_calli (A0 := jA base) (H0 := s.heap) (va_runS (As := [.int a0]) (rest := []) ⟨hx, hb, hml, hown, hts⟩ (uX14_isDigit l dC dI ca base B hB hAp G0 s.heap a0) (va_cwS 1 hts (jgS (jWr_49 _ (List.mem_of_getElem? (i := 18) rfl)) (jWr_49 _ (List.mem_of_getElem? (i := 19) rfl)) (jWr_1 _ (List.mem_of_getElem? (i := 5) rfl)) (jWr_49 _ (List.mem_of_getElem? (i := 20) rfl))) rfl rfl rfl (by decide +kernel) ⟨by rw [← hR]; exact Nat.le_of_ble_eq_true rfl, by rw [← hR]; exact Nat.le_of_ble_eq_true rfl⟩) ⟨fun a U g mk q => by obtain ⟨q0, q1, q2, qK, q10, q11⟩ := q; exact ⟨q0, q1, q2, jG.calling g mk a qK, q10, q11⟩, fun U hU hW => ⟨rfl, hU, hh.2.1, hG.step hW hU hh.1, jP.nil, trivial⟩⟩ rfl rfl hl.1 rfl (lv_room (Nat.le_of_ble_eq_true rfl)) dX14_hexOf_1 ⟨Nat.zero_le _, Nat.zero_le _⟩) hh.1 (fun q _ h => h) (fun q h => h) (fun r_2 u_1 t_1 H_1 locs_1 ht_1 hvm_1 hr_2 hb_1 hz_1 hk_1 hS_1 => ?_)
  rw [ht_1] at hb_1
  obtain ⟨hb_11, hb_12, hb_13, hb_14, hb_15⟩ := hb_1
  have hh_1 : jSt (dC, dI) B base G0 G0 EX14_hexOf s.heap 0 0 [] [] [] H_1 locs_1 := ((hh.call hb_11 hb_12 hb_13 hb_14 hS_1 rfl (L1 := []) [] rfl rfl (M1 := []) [] rfl rfl (I1 := []) [] rfl rfl).more hb_15)
  clear hh ht_1 hvm_1 hz_1 hk_1 hS_1 hb_11 hb_12 hb_13 hb_14 hb_15
  obtain ⟨hr_2b, hr_2p⟩ := hr_2
  obtain ⟨hr_2p_0, hr_2p_1⟩ := hr_2p
  have hr_2' := jb_01 hr_2b
  refine lv_if_eq (tgt := 14) hx hb dX14_hexOf_4 (by decide) (fun c_3 => ?_) (fun c_3 => ?_)
  · skip
    have c_3' : r_2.toInt = 0 := jb_eq (rfl) ((by decide)) c_3
    refine lv_iload_n hx hb dX14_hexOf_14 rfl (lv_at hl 0 rfl) ?_
    refine lv_bipush (v := 97) hx hb dX14_hexOf_15 (by decide) ?_
    refine lv_bipush (v := 102) hx hb dX14_hexOf_17 (by decide) ?_
    refine va_calli (A0 := jA base) (H0 := s.heap) (va_runS (As := [.int a0, .int 97, .int 102]) (rest := []) ⟨hx, hb, hml, hown, hts⟩ (uX14_in l dC dI ca base B hB hAp G0 H_1 a0 97 102) (va_cwS 3 hts (jgS (jWr_48 _ (List.mem_of_getElem? (i := 10) rfl)) (jWr_48 _ (List.mem_of_getElem? (i := 11) rfl)) (jWr_1 _ (List.mem_of_getElem? (i := 5) rfl)) (jWr_48 _ (List.mem_of_getElem? (i := 12) rfl))) rfl rfl rfl (by decide +kernel) ⟨by rw [← hR]; exact Nat.le_of_ble_eq_true rfl, by rw [← hR]; exact Nat.le_of_ble_eq_true rfl⟩) ⟨fun a U g mk q => by obtain ⟨q0, q1, q2, qK, q10, q11⟩ := q; exact ⟨q0, q1, q2, jG.calling g mk a qK, q10, q11⟩, fun U hU hW => ⟨rfl, hU, hh_1.2.1, hG.step hW hU hh_1.1, jP.nil, trivial⟩⟩ rfl rfl hl.1 rfl (lv_room (Nat.le_of_ble_eq_true rfl)) dX14_hexOf_19 ⟨Nat.zero_le _, Nat.zero_le _⟩) hh_1.1 (fun q _ h => h) (fun q h => h) (fun r_5 u_4 t_4 H_4 locs_4 ht_4 hvm_4 hr_5 hb_4 hz_4 hk_4 hS_4 => ?_)
    rw [ht_4] at hb_4
    obtain ⟨hb_41, hb_42, hb_43, hb_44, hb_45⟩ := hb_4
    have hh_4 : jSt (dC, dI) B base G0 G0 EX14_hexOf s.heap 0 0 [] [] [] H_4 locs_4 := ((hh_1.call hb_41 hb_42 hb_43 hb_44 hS_4 rfl (L1 := []) [] rfl rfl (M1 := []) [] rfl rfl (I1 := []) [] rfl rfl).more hb_45)
    clear hh_1 ht_4 hvm_4 hz_4 hk_4 hS_4 hb_41 hb_42 hb_43 hb_44 hb_45
    obtain ⟨hr_5b, hr_5p⟩ := hr_5
    obtain ⟨hr_5p_0, hr_5p_1, hr_5p_2⟩ := hr_5p
    have hr_5' := jb_01 hr_5b
    refine lv_if_eq (tgt := 35) hx hb dX14_hexOf_22 (by decide) (fun c_6 => ?_) (fun c_6 => ?_)
    · skip
      have c_6' : r_5.toInt = 0 := jb_eq (rfl) ((by decide)) c_6
      refine lv_iload_n hx hb dX14_hexOf_35 rfl (lv_at hl 0 rfl) ?_
      refine lv_bipush (v := 65) hx hb dX14_hexOf_36 (by decide) ?_
      refine lv_bipush (v := 70) hx hb dX14_hexOf_38 (by decide) ?_
      refine va_calli (A0 := jA base) (H0 := s.heap) (va_runS (As := [.int a0, .int 65, .int 70]) (rest := []) ⟨hx, hb, hml, hown, hts⟩ (uX14_in l dC dI ca base B hB hAp G0 H_4 a0 65 70) (va_cwS 3 hts (jgS (jWr_48 _ (List.mem_of_getElem? (i := 10) rfl)) (jWr_48 _ (List.mem_of_getElem? (i := 11) rfl)) (jWr_1 _ (List.mem_of_getElem? (i := 5) rfl)) (jWr_48 _ (List.mem_of_getElem? (i := 12) rfl))) rfl rfl rfl (by decide +kernel) ⟨by rw [← hR]; exact Nat.le_of_ble_eq_true rfl, by rw [← hR]; exact Nat.le_of_ble_eq_true rfl⟩) ⟨fun a U g mk q => by obtain ⟨q0, q1, q2, qK, q10, q11⟩ := q; exact ⟨q0, q1, q2, jG.calling g mk a qK, q10, q11⟩, fun U hU hW => ⟨rfl, hU, hh_4.2.1, hG.step hW hU hh_4.1, jP.nil, trivial⟩⟩ rfl rfl hl.1 rfl (lv_room (Nat.le_of_ble_eq_true rfl)) dX14_hexOf_40 ⟨Nat.zero_le _, Nat.zero_le _⟩) hh_4.1 (fun q _ h => h) (fun q h => h) (fun r_8 u_7 t_7 H_7 locs_7 ht_7 hvm_7 hr_8 hb_7 hz_7 hk_7 hS_7 => ?_)
      rw [ht_7] at hb_7
      obtain ⟨hb_71, hb_72, hb_73, hb_74, hb_75⟩ := hb_7
      have hh_7 : jSt (dC, dI) B base G0 G0 EX14_hexOf s.heap 0 0 [] [] [] H_7 locs_7 := ((hh_4.call hb_71 hb_72 hb_73 hb_74 hS_7 rfl (L1 := []) [] rfl rfl (M1 := []) [] rfl rfl (I1 := []) [] rfl rfl).more hb_75)
      clear hh_4 ht_7 hvm_7 hz_7 hk_7 hS_7 hb_71 hb_72 hb_73 hb_74 hb_75
      obtain ⟨hr_8b, hr_8p⟩ := hr_8
      obtain ⟨hr_8p_0, hr_8p_1, hr_8p_2⟩ := hr_8p
      have hr_8' := jb_01 hr_8b
      refine lv_if_eq (tgt := 56) hx hb dX14_hexOf_43 (by decide) (fun c_9 => ?_) (fun c_9 => ?_)
      · skip
        have c_9' : r_8.toInt = 0 := jb_eq (rfl) ((by decide)) c_9
        refine lv_iconst (v := (-1)) hx hb dX14_hexOf_56 (by decide) ?_
        rw [hQ]
        exact W.iret (v := (-1)) hx hb hr (fun t ht hW => ⟨⟨(-1), (), rfl, by first | omega | (refine ⟨?_, ?_, ?_⟩ <;> (first | omega | rfl | assumption | decide | exact Or.inl rfl | exact Or.inr rfl | (simp only; omega))), hh_7.rt (M1 := []) [] rfl ht⟩, by rw [ht]; try exact hh_7.1.1, fun q h9 hq => by rw [ht]; try exact hh_7.1.2.1 q h9 hq⟩) hh_7.1.2.2 dX14_hexOf_57
      · skip
        have c_9' : r_8.toInt ≠ 0 := jb_eq_n (rfl) ((by decide)) c_9
        refine lv_iload_n hx hb dX14_hexOf_46 rfl (lv_at hl 0 rfl) ?_
        refine lv_bipush (v := 65) hx hb dX14_hexOf_47 (by decide) ?_
        refine lv_isub hx hb dX14_hexOf_49 ?_
        refine lv_topi (fun z_10 ez_10 => ?_)
        have hz_10 : z_10.toInt = a0.toInt - 65 := by rw [ez_10]; exact jb_isub2 (rfl) ((by decide)) (by omega)
        refine lv_bipush (v := 10) hx hb dX14_hexOf_50 (by decide) ?_
        refine lv_iadd hx hb dX14_hexOf_52 ?_
        refine lv_topi (fun z_11 ez_11 => ?_)
        have hz_11 : z_11.toInt = z_10.toInt + 10 := by rw [ez_11]; exact jb_iadd2 (rfl) ((by decide)) (by omega)
        refine lv_goto (tgt := 57) hx hb dX14_hexOf_53 (by decide) ?_
        rw [hQ]
        exact W.iret (v := z_11) hx hb hr (fun t ht hW => ⟨⟨z_11, (), rfl, by first | omega | (refine ⟨?_, ?_, ?_⟩ <;> (first | omega | rfl | assumption | decide | exact Or.inl rfl | exact Or.inr rfl | (simp only; omega))), hh_7.rt (M1 := []) [] rfl ht⟩, by rw [ht]; try exact hh_7.1.1, fun q h9 hq => by rw [ht]; try exact hh_7.1.2.1 q h9 hq⟩) hh_7.1.2.2 dX14_hexOf_57
    · skip
      have c_6' : r_5.toInt ≠ 0 := jb_eq_n (rfl) ((by decide)) c_6
      refine lv_iload_n hx hb dX14_hexOf_25 rfl (lv_at hl 0 rfl) ?_
      refine lv_bipush (v := 97) hx hb dX14_hexOf_26 (by decide) ?_
      refine lv_isub hx hb dX14_hexOf_28 ?_
      refine lv_topi (fun z_12 ez_12 => ?_)
      have hz_12 : z_12.toInt = a0.toInt - 97 := by rw [ez_12]; exact jb_isub2 (rfl) ((by decide)) (by omega)
      refine lv_bipush (v := 10) hx hb dX14_hexOf_29 (by decide) ?_
      refine lv_iadd hx hb dX14_hexOf_31 ?_
      refine lv_topi (fun z_13 ez_13 => ?_)
      have hz_13 : z_13.toInt = z_12.toInt + 10 := by rw [ez_13]; exact jb_iadd2 (rfl) ((by decide)) (by omega)
      refine lv_goto (tgt := 57) hx hb dX14_hexOf_32 (by decide) ?_
      rw [hQ]
      exact W.iret (v := z_13) hx hb hr (fun t ht hW => ⟨⟨z_13, (), rfl, by first | omega | (refine ⟨?_, ?_, ?_⟩ <;> (first | omega | rfl | assumption | decide | exact Or.inl rfl | exact Or.inr rfl | (simp only; omega))), hh_4.rt (M1 := []) [] rfl ht⟩, by rw [ht]; try exact hh_4.1.1, fun q h9 hq => by rw [ht]; try exact hh_4.1.2.1 q h9 hq⟩) hh_4.1.2.2 dX14_hexOf_57
  · skip
    have c_3' : r_2.toInt ≠ 0 := jb_eq_n (rfl) ((by decide)) c_3
    refine lv_iload_n hx hb dX14_hexOf_7 rfl (lv_at hl 0 rfl) ?_
    refine lv_bipush (v := 48) hx hb dX14_hexOf_8 (by decide) ?_
    refine lv_isub hx hb dX14_hexOf_10 ?_
    refine lv_topi (fun z_14 ez_14 => ?_)
    have hz_14 : z_14.toInt = a0.toInt - 48 := by rw [ez_14]; exact jb_isub2 (rfl) ((by decide)) (by omega)
    refine lv_goto (tgt := 57) hx hb dX14_hexOf_11 (by decide) ?_
    rw [hQ]
    exact W.iret (v := z_14) hx hb hr (fun t ht hW => ⟨⟨z_14, (), rfl, by first | omega | (refine ⟨?_, ?_, ?_⟩ <;> (first | omega | rfl | assumption | decide | exact Or.inl rfl | exact Or.inr rfl | (simp only; omega))), hh_1.rt (M1 := []) [] rfl ht⟩, by rw [ht]; try exact hh_1.1.1, fun q h9 hq => by rw [ht]; try exact hh_1.1.2.1 q h9 hq⟩) hh_1.1.2.2 dX14_hexOf_57
set_option maxHeartbeats 4000000 in
set_option maxRecDepth 20000 in
theorem uX14_here (l : Launch) (dC : Nat → ClassId) (dI : Nat → Nat → Nat) (ca : Nat → ClassId) (base : Nat) (B : jF) (hB : jBok B) (hAp : jAp (dC, dI)) (hB16 : ∀ n G a H, B 16 n G a H ↔ jOb (dC, dI) 16 74 (F16 n G) a H) (hB110 : ∀ n G a H, B 110 n G a H ↔ jAr (dC, dI) (ca 1) (fun j z => 0 ≤ z.toInt ∧ z.toInt ≤ 255) n a H) (G0 : jT) (H0 : Heap) (r0 : Nat) (pt : Int32) (pe : Int32) : Met l yX14_here (jw yX14_here cX14_here 1 (some .int)) ({ frames := 0, cells := 0, slots := 0, locals := 0 }) (va_Pc [.ref r0] (fun U => U.heap = H0 ∧ jX B base G0 [] H0 ∧ jG dC dI ca base U ∧ G0 r0 = some (16, 0) ∧ jP (dC, dI) G0 H0 [(r0, 16, 29, .int pt), (r0, 16, 30, .int pe)] ∧ 0 ≤ pt.toInt ∧ pt.toInt ≤ 90000 ∧ 0 ≤ pe.toInt ∧ pe.toInt ≤ 3000)) (va_Qi (S := Unit) (fun r u => (-1 ≤ r.toInt ∧ r.toInt ≤ 255 ∧ (r.toInt = -1 ∨ pt.toInt < pe.toInt))) (fun u t => jRt (dC, dI) B base G0 EX14_here H0 [] t.heap) (jA base)) 0 0 (jA base) := by
  refine Met.ofW (cc := cX14_here) (maxL := 1) (ret := (some .int)) (by decide) rfl ?_
  intro p e s m args below meth c s₁ Bd hml hv
  obtain ⟨rfl, hH0, hX, hG, hg_r0, hP0, hp0, hp1, hp2, hp3⟩ := hv
  have hK := hG.1
  have hx := Bd.exec
  have hb := Bd.bytes
  have hr := Bd.returns
  have hts := atoms_spec (ws := (jw yX14_here cX14_here 1 (some .int))) Bd.pre
  have htw : ∀ w ∈ jWl, w.before _ s = true := fun w h => hts w (List.mem_cons_of_mem _ h)
  have hown : s.vm.findClass RX14 = some m.cls := findClass_of_methodNamed Bd.named
  have hlocks := Bd.notSynchronized
  obtain ⟨Q, hQ⟩ : ∃ Q, Q = MQ below (va_Qi (S := Unit) (fun r u => (-1 ≤ r.toInt ∧ r.toInt ≤ 255 ∧ (r.toInt = -1 ∨ pt.toInt < pe.toInt))) (fun u t => jRt (dC, dI) B base G0 EX14_here H0 [] t.heap) (jA base)) ([.ref r0] : List Value).toArray s 0 0 (jA base) := ⟨_, rfl⟩
  rw [← hQ]
  have hl := lv_entry ([.ref r0]) (n := 1) (Nat.le_of_ble_eq_true rfl)
  rw [lg_entry_eq]
  generalize (lg_sl ([.ref r0]) ++ List.replicate (1 - (lg_sl ([.ref r0])).length) Slot.unset).toArray = ls at hl ⊢
  have hl : lv_has ls 1 [(0, .ref r0)] := hl
  generalize hR : (headSpec (jw yX14_here cX14_here 1 (some .int)) ({ frames := 0, cells := 0, slots := 0, locals := 0 })).room = R
  subst hH0
  have hh : jSt (dC, dI) B base G0 G0 EX14_here s.heap 0 0 [(r0, 16, 29, .int pt), (r0, 16, 30, .int pe)] [] [] s.heap [] := jSt.start hX hP0 jMc.nil jIs.nil
  clear hX hP0
  have hkm1 : ((-1) : Int32).toInt = (-1) := by decide
  have hk0 : (0 : Int32).toInt = 0 := by decide
  have hk1 : (1 : Int32).toInt = 1 := by decide
  have hly_16_9 := htw (u_lay RX14 TX14 9) (jWc_wsX140 _ (u_in_lay (by decide)))
  have hly_16_29 := htw (u_lay RX14 TX14 29) (jWc_wsX140 _ (u_in_lay (by decide)))
  have hly_16_30 := htw (u_lay RX14 TX14 30) (jWc_wsX140 _ (u_in_lay (by decide)))
  have hlk_273 := (htw (.fieldLink RX14 273 "ProofServerModel" "at" "I") (jWr_50 _ (List.mem_of_getElem? (i := 5) rfl)))
  have hlk_276 := (htw (.fieldLink RX14 276 "ProofServerModel" "end" "I") (jWr_50 _ (List.mem_of_getElem? (i := 6) rfl)))
  have hlk_20 := (htw (.fieldLink RX14 20 "ProofServerModel" "kept" "[I") (jWr_10 _ (List.mem_of_getElem? (i := 21) rfl)))
  refine lv_aload_n hx hb dX14_here_0 rfl (lv_at hl 0 rfl) ?_
  refine j7_read hx hb hown hK (C := RX14) (T := TX14) (N := 74) rfl hly_16_29 hlk_273 (hh.at 0 rfl) dX14_here_1 ?_
  refine lv_aload_n hx hb dX14_here_4 rfl (lv_at hl 0 rfl) ?_
  refine j7_read hx hb hown hK (C := RX14) (T := TX14) (N := 74) rfl hly_16_30 hlk_276 (hh.at 1 rfl) dX14_here_5 ?_
  refine lv_icmp_ge (tgt := 23) hx hb dX14_here_8 (by decide) (fun c_1 => ?_) (fun c_1 => ?_)
  · skip
    have c_1' : pt.toInt ≥ pe.toInt := jb_ge (rfl) (rfl) c_1
    refine lv_iconst (v := (-1)) hx hb dX14_here_23 (by decide) ?_
    rw [hQ]
    exact W.iret (v := (-1)) hx hb hr (fun t ht hW => ⟨⟨(-1), (), rfl, by first | omega | (refine ⟨?_, ?_, ?_⟩ <;> (first | omega | rfl | assumption | decide | exact Or.inl rfl | exact Or.inr rfl | (simp only; omega))), hh.rt (M1 := []) [] rfl ht⟩, by rw [ht]; try exact hh.1.1, fun q h9 hq => by rw [ht]; try exact hh.1.2.1 q h9 hq⟩) hh.1.2.2 dX14_here_24
  · skip
    have c_1' : pt.toInt < pe.toInt := jb_ge_n (rfl) (rfl) c_1
    refine lv_aload_n hx hb dX14_here_11 rfl (lv_at hl 0 rfl) ?_
    obtain ⟨v_2, hv_2, hh_3⟩ := hh.pin (C := RX14) (T := TX14) (N := 74) hB16 rfl (by decide) hg_r0 (i := 9) (by decide) rfl
    clear hh
    obtain ⟨kept_4, rfl, hg_kept_4⟩ := hv_2
    refine j7_read hx hb hown hK (C := RX14) (T := TX14) (N := 74) rfl hly_16_9 hlk_20 (hh_3.at 0 rfl) dX14_here_12 ?_
    refine lv_aload_n hx hb dX14_here_15 rfl (lv_at hl 0 rfl) ?_
    refine j7_read hx hb hown hK (C := RX14) (T := TX14) (N := 74) rfl hly_16_29 hlk_273 (hh_3.at 1 rfl) dX14_here_16 ?_
    refine j7_iald hx hb hK hh_3 hB110 1 rfl (by decide) hg_kept_4 (x := pt.toInt) (rfl) (by omega) dX14_here_19 (fun z_5 (hz_5 : 0 ≤ z_5.toInt ∧ z_5.toInt ≤ 255) => ?_)
    refine lv_goto (tgt := 24) hx hb dX14_here_20 (by decide) ?_
    rw [hQ]
    exact W.iret (v := z_5) hx hb hr (fun t ht hW => ⟨⟨z_5, (), rfl, by first | omega | (refine ⟨?_, ?_, ?_⟩ <;> (first | omega | rfl | assumption | decide | exact Or.inl rfl | exact Or.inr rfl | (simp only; omega))), hh_3.rt (M1 := []) [] rfl ht⟩, by rw [ht]; try exact hh_3.1.1, fun q h9 hq => by rw [ht]; try exact hh_3.1.2.1 q h9 hq⟩) hh_3.1.2.2 dX14_here_24
set_option maxHeartbeats 4000000 in
set_option maxRecDepth 20000 in
theorem uX14_blanks (l : Launch) (dC : Nat → ClassId) (dI : Nat → Nat → Nat) (ca : Nat → ClassId) (base : Nat) (B : jF) (hB : jBok B) (hAp : jAp (dC, dI)) (hB16 : ∀ n G a H, B 16 n G a H ↔ jOb (dC, dI) 16 74 (F16 n G) a H) (hB110 : ∀ n G a H, B 110 n G a H ↔ jAr (dC, dI) (ca 1) (fun j z => 0 ≤ z.toInt ∧ z.toInt ≤ 255) n a H) (G0 : jT) (H0 : Heap) (r0 : Nat) (pt : Int32) (pe : Int32) (kb : Int) : Met l yX14_blanks (jw yX14_blanks cX14_blanks 1 none) ({ frames := 1, cells := 0, slots := 0, locals := 20 }) (va_Pc [.ref r0] (fun U => U.heap = H0 ∧ jX B base G0 [] H0 ∧ jG dC dI ca base U ∧ G0 r0 = some (16, 0) ∧ jP (dC, dI) G0 H0 [(r0, 16, 29, .int pt), (r0, 16, 30, .int pe)] ∧ 0 ≤ pt.toInt ∧ pt.toInt ≤ 90000 ∧ 0 ≤ pe.toInt ∧ pe.toInt ≤ 3000 ∧ pt.toInt ≤ kb ∧ pe.toInt ≤ kb ∧ kb ≤ 90000)) (va_Qv (S := Int32) (fun u => pt.toInt ≤ u.toInt ∧ u.toInt ≤ kb) (fun u t => jRt (dC, dI) B base G0 EX14_blanks H0 [(r0, 16, 29, .int u)] t.heap) (jA base)) 0 0 (jA base) := by
  refine Met.ofW (cc := cX14_blanks) (maxL := 1) (ret := none) (by decide) rfl ?_
  intro p e s m args below meth c s₁ Bd hml hv
  obtain ⟨rfl, hH0, hX, hG, hg_r0, hP0, hp0, hp1, hp2, hp3, hp4, hp5, hp6⟩ := hv
  have hK := hG.1
  have hx := Bd.exec
  have hb := Bd.bytes
  have hr := Bd.returns
  have hts := atoms_spec (ws := (jw yX14_blanks cX14_blanks 1 none)) Bd.pre
  have htw : ∀ w ∈ jWl, w.before _ s = true := fun w h => hts w (List.mem_cons_of_mem _ h)
  have hown : s.vm.findClass RX14 = some m.cls := findClass_of_methodNamed Bd.named
  have hlocks := Bd.notSynchronized
  obtain ⟨Q, hQ⟩ : ∃ Q, Q = MQ below (va_Qv (S := Int32) (fun u => pt.toInt ≤ u.toInt ∧ u.toInt ≤ kb) (fun u t => jRt (dC, dI) B base G0 EX14_blanks H0 [(r0, 16, 29, .int u)] t.heap) (jA base)) ([.ref r0] : List Value).toArray s 0 0 (jA base) := ⟨_, rfl⟩
  rw [← hQ]
  have hl := lv_entry ([.ref r0]) (n := 1) (Nat.le_of_ble_eq_true rfl)
  rw [lg_entry_eq]
  generalize (lg_sl ([.ref r0]) ++ List.replicate (1 - (lg_sl ([.ref r0])).length) Slot.unset).toArray = ls at hl ⊢
  have hl : lv_has ls 1 [(0, .ref r0)] := hl
  generalize hR : (headSpec (jw yX14_blanks cX14_blanks 1 none) ({ frames := 1, cells := 0, slots := 0, locals := 20 })).room = R
  subst hH0
  have hh : jSt (dC, dI) B base G0 G0 EX14_blanks s.heap 0 0 [(r0, 16, 29, .int pt), (r0, 16, 30, .int pe)] [] [] s.heap [] := jSt.start hX hP0 jMc.nil jIs.nil
  clear hX hP0
  have hk0 : (0 : Int32).toInt = 0 := by decide
  have hk1 : (1 : Int32).toInt = 1 := by decide
  have hk9 : (9 : Int32).toInt = 9 := by decide
  have hk10 : (10 : Int32).toInt = 10 := by decide
  have hk13 : (13 : Int32).toInt = 13 := by decide
  have hk32 : (32 : Int32).toInt = 32 := by decide
  have hly_16_29 := htw (u_lay RX14 TX14 29) (jWc_wsX140 _ (u_in_lay (by decide)))
  have hlk_273 := (htw (.fieldLink RX14 273 "ProofServerModel" "at" "I") (jWr_50 _ (List.mem_of_getElem? (i := 5) rfl)))
  have L0 : ∀ (N : Nat) (wt_1 : Int32) (H_1 : Heap) (locs_1 : List Loc), jSt (dC, dI) B base G0 G0 EX14_blanks s.heap 0 0 [(r0, 16, 29, .int wt_1), (r0, 16, 30, .int pe)] [] [] H_1 locs_1 → (pt.toInt ≤ wt_1.toInt ∧ wt_1.toInt ≤ kb) → (((pe.toInt - wt_1.toInt).toNat : Int) : Int) < N → ∀ ls : Array Slot, lv_has ls 1 [(0, .ref r0)] → W p l e R s m ([.ref r0] : List Value).toArray below meth c H_1 locs_1 0 0 Q (F0 m 0 ls []) := by
    intro N
    induction N with
    | zero => intro wt_1 H_1 locs_1 hh_1  hi_1 hm; exact absurd hm (by omega)
    | succ N L0 =>
      intro wt_1 H_1 locs_1 hh_1  hi_1 hm_1 ls hl
      obtain ⟨hi_1_0, hi_1_1⟩ := hi_1
      refine lv_aload_n hx hb dX14_blanks_0 rfl (lv_at hl 0 rfl) ?_
      refine va_calli (A0 := jA base) (H0 := s.heap) (va_runV (As := []) (rest := []) ⟨hx, hb, hml, hown, hts⟩ (uX14_here l dC dI ca base B hB hAp hB16 hB110 G0 H_1 r0 wt_1 pe) (cwV 0 hts (jgV (jWr_50 _ (List.mem_of_getElem? (i := 20) rfl)) (jWr_50 _ (List.mem_of_getElem? (i := 21) rfl)) (jWr_50 _ (List.mem_of_getElem? (i := 22) rfl)) (jWr_1 _ (List.mem_of_getElem? (i := 5) rfl)) (jWr_50 _ (List.mem_of_getElem? (i := 23) rfl))) rfl rfl rfl (by decide +kernel) ⟨by rw [← hR]; exact Nat.le_of_ble_eq_true rfl, by rw [← hR]; exact Nat.le_of_ble_eq_true rfl⟩) ⟨fun a U g mk q => by obtain ⟨q0, q1, q2, qK, q10, q11, q12⟩ := q; exact ⟨q0, q1, q2, jG.calling g mk a qK, q10, q11, q12⟩, hh_1.recv (C := RX14) (T := TX14) (N := 74) hB16 rfl (by decide) hg_r0 hK, fun U hU hW => ⟨rfl, hU, hh_1.2.1, hG.step hW hU hh_1.1, hg_r0, (hh_1.2.2.1.sub (L1 := [(r0, 16, 29, .int wt_1), (r0, 16, 30, .int pe)]) [0, 1] rfl), by first | omega | (refine ⟨?_, ?_, ?_, ?_⟩ <;> (first | omega | rfl | assumption | decide | exact Or.inl rfl | exact Or.inr rfl | (simp only; omega)))⟩⟩ rfl rfl hl.1 rfl (lv_room (Nat.le_of_ble_eq_true rfl)) dX14_blanks_1 ⟨Nat.zero_le _, Nat.zero_le _⟩) hh_1.1 (fun q _ h => h) (fun q h => h) (fun r_3 u_2 t_2 H_2 locs_2 ht_2 hvm_2 hr_3 hb_2 hz_2 hk_2 hS_2 => ?_)
      rw [ht_2] at hb_2
      obtain ⟨hb_21, hb_22, hb_23, hb_24, hb_25⟩ := hb_2
      have hh_2 : jSt (dC, dI) B base G0 G0 EX14_blanks s.heap 0 0 [(r0, 16, 29, .int wt_1), (r0, 16, 30, .int pe)] [] [] H_2 locs_2 := ((hh_1.call hb_21 hb_22 hb_23 hb_24 hS_2 rfl (L1 := [(r0, 16, 29, .int wt_1), (r0, 16, 30, .int pe)]) [0, 1] rfl rfl (M1 := []) [] rfl rfl (I1 := []) [] rfl rfl).more hb_25)
      clear hh_1 ht_2 hvm_2 hz_2 hk_2 hS_2 hb_21 hb_22 hb_23 hb_24 hb_25
      obtain ⟨hr_3_0, hr_3_1, hr_3_2⟩ := hr_3
      refine lv_bipush (v := 32) hx hb dX14_blanks_4 (by decide) ?_
      refine lv_icmp_eq (tgt := 36) hx hb dX14_blanks_6 (by decide) (fun c_4 => ?_) (fun c_4 => ?_)
      · skip
        have c_4' : r_3.toInt = 32 := jb_eq (rfl) ((by decide)) c_4
        first | (have hr_3_2q := hr_3_2.resolve_left (by omega); clear hr_3_2) | (have hr_3_2q := hr_3_2.resolve_right (by omega); clear hr_3_2) | try clear hr_3_2
        refine lv_aload_n hx hb dX14_blanks_36 rfl (lv_at hl 0 rfl) ?_
        refine lv_dup hx hb dX14_blanks_37 rfl ?_
        refine j7_read hx hb hown hK (C := RX14) (T := TX14) (N := 74) rfl hly_16_29 hlk_273 (hh_2.at 0 rfl) dX14_blanks_38 ?_
        refine lv_iconst (v := 1) hx hb dX14_blanks_41 (by decide) ?_
        refine lv_iadd hx hb dX14_blanks_42 ?_
        refine lv_topi (fun z_5 ez_5 => ?_)
        have hz_5 : z_5.toInt = wt_1.toInt + 1 := by rw [ez_5]; exact jb_iadd2 (rfl) ((by decide)) (by omega)
        refine j7_put hx hb hown hK hh_2 hB hAp hB16 (C := RX14) (T := TX14) (N := 74) rfl (by decide) hg_r0 (i := 29) (by decide) hly_16_29 rfl hlk_273 rfl (ty := .int) (v := .int z_5) (by decide +kernel) rfl rfl (⟨_, rfl, by omega, by omega⟩) rfl (L1 := [(r0, 16, 30, .int pe)]) [1] rfl rfl rfl dX14_blanks_43 (fun H_6 locs_6 hh_6 => ?_)
        clear hh_2
        refine lv_goto (tgt := 0) hx hb dX14_blanks_46 (by decide) ?_
        exact L0 z_5 _ _ hh_6 (by first | omega | (refine ⟨?_, ?_⟩ <;> (first | omega | rfl | assumption | decide | exact Or.inl rfl | exact Or.inr rfl | (simp only; omega)))) (by omega) _ (lv_sub hl [0] rfl)
      · skip
        have c_4' : r_3.toInt ≠ 32 := jb_eq_n (rfl) ((by decide)) c_4
        try clear hr_3_2
        refine lv_aload_n hx hb dX14_blanks_9 rfl (lv_at hl 0 rfl) ?_
        refine va_calli (A0 := jA base) (H0 := s.heap) (va_runV (As := []) (rest := []) ⟨hx, hb, hml, hown, hts⟩ (uX14_here l dC dI ca base B hB hAp hB16 hB110 G0 H_2 r0 wt_1 pe) (cwV 0 hts (jgV (jWr_50 _ (List.mem_of_getElem? (i := 20) rfl)) (jWr_50 _ (List.mem_of_getElem? (i := 21) rfl)) (jWr_50 _ (List.mem_of_getElem? (i := 22) rfl)) (jWr_1 _ (List.mem_of_getElem? (i := 5) rfl)) (jWr_50 _ (List.mem_of_getElem? (i := 23) rfl))) rfl rfl rfl (by decide +kernel) ⟨by rw [← hR]; exact Nat.le_of_ble_eq_true rfl, by rw [← hR]; exact Nat.le_of_ble_eq_true rfl⟩) ⟨fun a U g mk q => by obtain ⟨q0, q1, q2, qK, q10, q11, q12⟩ := q; exact ⟨q0, q1, q2, jG.calling g mk a qK, q10, q11, q12⟩, hh_2.recv (C := RX14) (T := TX14) (N := 74) hB16 rfl (by decide) hg_r0 hK, fun U hU hW => ⟨rfl, hU, hh_2.2.1, hG.step hW hU hh_2.1, hg_r0, (hh_2.2.2.1.sub (L1 := [(r0, 16, 29, .int wt_1), (r0, 16, 30, .int pe)]) [0, 1] rfl), by first | omega | (refine ⟨?_, ?_, ?_, ?_⟩ <;> (first | omega | rfl | assumption | decide | exact Or.inl rfl | exact Or.inr rfl | (simp only; omega)))⟩⟩ rfl rfl hl.1 rfl (lv_room (Nat.le_of_ble_eq_true rfl)) dX14_blanks_10 ⟨Nat.zero_le _, Nat.zero_le _⟩) hh_2.1 (fun q _ h => h) (fun q h => h) (fun r_8 u_7 t_7 H_7 locs_7 ht_7 hvm_7 hr_8 hb_7 hz_7 hk_7 hS_7 => ?_)
        rw [ht_7] at hb_7
        obtain ⟨hb_71, hb_72, hb_73, hb_74, hb_75⟩ := hb_7
        have hh_7 : jSt (dC, dI) B base G0 G0 EX14_blanks s.heap 0 0 [(r0, 16, 29, .int wt_1), (r0, 16, 30, .int pe)] [] [] H_7 locs_7 := ((hh_2.call hb_71 hb_72 hb_73 hb_74 hS_7 rfl (L1 := [(r0, 16, 29, .int wt_1), (r0, 16, 30, .int pe)]) [0, 1] rfl rfl (M1 := []) [] rfl rfl (I1 := []) [] rfl rfl).more hb_75)
        clear hh_2 ht_7 hvm_7 hz_7 hk_7 hS_7 hb_71 hb_72 hb_73 hb_74 hb_75
        obtain ⟨hr_8_0, hr_8_1, hr_8_2⟩ := hr_8
        refine lv_bipush (v := 9) hx hb dX14_blanks_13 (by decide) ?_
        refine lv_icmp_eq (tgt := 36) hx hb dX14_blanks_15 (by decide) (fun c_9 => ?_) (fun c_9 => ?_)
        · skip
          have c_9' : r_8.toInt = 9 := jb_eq (rfl) ((by decide)) c_9
          first | (have hr_8_2q := hr_8_2.resolve_left (by omega); clear hr_8_2) | (have hr_8_2q := hr_8_2.resolve_right (by omega); clear hr_8_2) | try clear hr_8_2
          refine lv_aload_n hx hb dX14_blanks_36 rfl (lv_at hl 0 rfl) ?_
          refine lv_dup hx hb dX14_blanks_37 rfl ?_
          refine j7_read hx hb hown hK (C := RX14) (T := TX14) (N := 74) rfl hly_16_29 hlk_273 (hh_7.at 0 rfl) dX14_blanks_38 ?_
          refine lv_iconst (v := 1) hx hb dX14_blanks_41 (by decide) ?_
          refine lv_iadd hx hb dX14_blanks_42 ?_
          refine lv_topi (fun z_10 ez_10 => ?_)
          have hz_10 : z_10.toInt = wt_1.toInt + 1 := by rw [ez_10]; exact jb_iadd2 (rfl) ((by decide)) (by omega)
          refine j7_put hx hb hown hK hh_7 hB hAp hB16 (C := RX14) (T := TX14) (N := 74) rfl (by decide) hg_r0 (i := 29) (by decide) hly_16_29 rfl hlk_273 rfl (ty := .int) (v := .int z_10) (by decide +kernel) rfl rfl (⟨_, rfl, by omega, by omega⟩) rfl (L1 := [(r0, 16, 30, .int pe)]) [1] rfl rfl rfl dX14_blanks_43 (fun H_11 locs_11 hh_11 => ?_)
          clear hh_7
          refine lv_goto (tgt := 0) hx hb dX14_blanks_46 (by decide) ?_
          exact L0 z_10 _ _ hh_11 (by first | omega | (refine ⟨?_, ?_⟩ <;> (first | omega | rfl | assumption | decide | exact Or.inl rfl | exact Or.inr rfl | (simp only; omega)))) (by omega) _ (lv_sub hl [0] rfl)
        · skip
          have c_9' : r_8.toInt ≠ 9 := jb_eq_n (rfl) ((by decide)) c_9
          try clear hr_8_2
          refine lv_aload_n hx hb dX14_blanks_18 rfl (lv_at hl 0 rfl) ?_
          refine va_calli (A0 := jA base) (H0 := s.heap) (va_runV (As := []) (rest := []) ⟨hx, hb, hml, hown, hts⟩ (uX14_here l dC dI ca base B hB hAp hB16 hB110 G0 H_7 r0 wt_1 pe) (cwV 0 hts (jgV (jWr_50 _ (List.mem_of_getElem? (i := 20) rfl)) (jWr_50 _ (List.mem_of_getElem? (i := 21) rfl)) (jWr_50 _ (List.mem_of_getElem? (i := 22) rfl)) (jWr_1 _ (List.mem_of_getElem? (i := 5) rfl)) (jWr_50 _ (List.mem_of_getElem? (i := 23) rfl))) rfl rfl rfl (by decide +kernel) ⟨by rw [← hR]; exact Nat.le_of_ble_eq_true rfl, by rw [← hR]; exact Nat.le_of_ble_eq_true rfl⟩) ⟨fun a U g mk q => by obtain ⟨q0, q1, q2, qK, q10, q11, q12⟩ := q; exact ⟨q0, q1, q2, jG.calling g mk a qK, q10, q11, q12⟩, hh_7.recv (C := RX14) (T := TX14) (N := 74) hB16 rfl (by decide) hg_r0 hK, fun U hU hW => ⟨rfl, hU, hh_7.2.1, hG.step hW hU hh_7.1, hg_r0, (hh_7.2.2.1.sub (L1 := [(r0, 16, 29, .int wt_1), (r0, 16, 30, .int pe)]) [0, 1] rfl), by first | omega | (refine ⟨?_, ?_, ?_, ?_⟩ <;> (first | omega | rfl | assumption | decide | exact Or.inl rfl | exact Or.inr rfl | (simp only; omega)))⟩⟩ rfl rfl hl.1 rfl (lv_room (Nat.le_of_ble_eq_true rfl)) dX14_blanks_19 ⟨Nat.zero_le _, Nat.zero_le _⟩) hh_7.1 (fun q _ h => h) (fun q h => h) (fun r_13 u_12 t_12 H_12 locs_12 ht_12 hvm_12 hr_13 hb_12 hz_12 hk_12 hS_12 => ?_)
          rw [ht_12] at hb_12
          obtain ⟨hb_121, hb_122, hb_123, hb_124, hb_125⟩ := hb_12
          have hh_12 : jSt (dC, dI) B base G0 G0 EX14_blanks s.heap 0 0 [(r0, 16, 29, .int wt_1), (r0, 16, 30, .int pe)] [] [] H_12 locs_12 := ((hh_7.call hb_121 hb_122 hb_123 hb_124 hS_12 rfl (L1 := [(r0, 16, 29, .int wt_1), (r0, 16, 30, .int pe)]) [0, 1] rfl rfl (M1 := []) [] rfl rfl (I1 := []) [] rfl rfl).more hb_125)
          clear hh_7 ht_12 hvm_12 hz_12 hk_12 hS_12 hb_121 hb_122 hb_123 hb_124 hb_125
          obtain ⟨hr_13_0, hr_13_1, hr_13_2⟩ := hr_13
          refine lv_bipush (v := 10) hx hb dX14_blanks_22 (by decide) ?_
          refine lv_icmp_eq (tgt := 36) hx hb dX14_blanks_24 (by decide) (fun c_14 => ?_) (fun c_14 => ?_)
          · skip
            have c_14' : r_13.toInt = 10 := jb_eq (rfl) ((by decide)) c_14
            first | (have hr_13_2q := hr_13_2.resolve_left (by omega); clear hr_13_2) | (have hr_13_2q := hr_13_2.resolve_right (by omega); clear hr_13_2) | try clear hr_13_2
            refine lv_aload_n hx hb dX14_blanks_36 rfl (lv_at hl 0 rfl) ?_
            refine lv_dup hx hb dX14_blanks_37 rfl ?_
            refine j7_read hx hb hown hK (C := RX14) (T := TX14) (N := 74) rfl hly_16_29 hlk_273 (hh_12.at 0 rfl) dX14_blanks_38 ?_
            refine lv_iconst (v := 1) hx hb dX14_blanks_41 (by decide) ?_
            refine lv_iadd hx hb dX14_blanks_42 ?_
            refine lv_topi (fun z_15 ez_15 => ?_)
            have hz_15 : z_15.toInt = wt_1.toInt + 1 := by rw [ez_15]; exact jb_iadd2 (rfl) ((by decide)) (by omega)
            refine j7_put hx hb hown hK hh_12 hB hAp hB16 (C := RX14) (T := TX14) (N := 74) rfl (by decide) hg_r0 (i := 29) (by decide) hly_16_29 rfl hlk_273 rfl (ty := .int) (v := .int z_15) (by decide +kernel) rfl rfl (⟨_, rfl, by omega, by omega⟩) rfl (L1 := [(r0, 16, 30, .int pe)]) [1] rfl rfl rfl dX14_blanks_43 (fun H_16 locs_16 hh_16 => ?_)
            clear hh_12
            refine lv_goto (tgt := 0) hx hb dX14_blanks_46 (by decide) ?_
            exact L0 z_15 _ _ hh_16 (by first | omega | (refine ⟨?_, ?_⟩ <;> (first | omega | rfl | assumption | decide | exact Or.inl rfl | exact Or.inr rfl | (simp only; omega)))) (by omega) _ (lv_sub hl [0] rfl)
          · skip
            have c_14' : r_13.toInt ≠ 10 := jb_eq_n (rfl) ((by decide)) c_14
            try clear hr_13_2
            refine lv_aload_n hx hb dX14_blanks_27 rfl (lv_at hl 0 rfl) ?_
            refine va_calli (A0 := jA base) (H0 := s.heap) (va_runV (As := []) (rest := []) ⟨hx, hb, hml, hown, hts⟩ (uX14_here l dC dI ca base B hB hAp hB16 hB110 G0 H_12 r0 wt_1 pe) (cwV 0 hts (jgV (jWr_50 _ (List.mem_of_getElem? (i := 20) rfl)) (jWr_50 _ (List.mem_of_getElem? (i := 21) rfl)) (jWr_50 _ (List.mem_of_getElem? (i := 22) rfl)) (jWr_1 _ (List.mem_of_getElem? (i := 5) rfl)) (jWr_50 _ (List.mem_of_getElem? (i := 23) rfl))) rfl rfl rfl (by decide +kernel) ⟨by rw [← hR]; exact Nat.le_of_ble_eq_true rfl, by rw [← hR]; exact Nat.le_of_ble_eq_true rfl⟩) ⟨fun a U g mk q => by obtain ⟨q0, q1, q2, qK, q10, q11, q12⟩ := q; exact ⟨q0, q1, q2, jG.calling g mk a qK, q10, q11, q12⟩, hh_12.recv (C := RX14) (T := TX14) (N := 74) hB16 rfl (by decide) hg_r0 hK, fun U hU hW => ⟨rfl, hU, hh_12.2.1, hG.step hW hU hh_12.1, hg_r0, (hh_12.2.2.1.sub (L1 := [(r0, 16, 29, .int wt_1), (r0, 16, 30, .int pe)]) [0, 1] rfl), by first | omega | (refine ⟨?_, ?_, ?_, ?_⟩ <;> (first | omega | rfl | assumption | decide | exact Or.inl rfl | exact Or.inr rfl | (simp only; omega)))⟩⟩ rfl rfl hl.1 rfl (lv_room (Nat.le_of_ble_eq_true rfl)) dX14_blanks_28 ⟨Nat.zero_le _, Nat.zero_le _⟩) hh_12.1 (fun q _ h => h) (fun q h => h) (fun r_18 u_17 t_17 H_17 locs_17 ht_17 hvm_17 hr_18 hb_17 hz_17 hk_17 hS_17 => ?_)
            rw [ht_17] at hb_17
            obtain ⟨hb_171, hb_172, hb_173, hb_174, hb_175⟩ := hb_17
            have hh_17 : jSt (dC, dI) B base G0 G0 EX14_blanks s.heap 0 0 [(r0, 16, 29, .int wt_1), (r0, 16, 30, .int pe)] [] [] H_17 locs_17 := ((hh_12.call hb_171 hb_172 hb_173 hb_174 hS_17 rfl (L1 := [(r0, 16, 29, .int wt_1), (r0, 16, 30, .int pe)]) [0, 1] rfl rfl (M1 := []) [] rfl rfl (I1 := []) [] rfl rfl).more hb_175)
            clear hh_12 ht_17 hvm_17 hz_17 hk_17 hS_17 hb_171 hb_172 hb_173 hb_174 hb_175
            obtain ⟨hr_18_0, hr_18_1, hr_18_2⟩ := hr_18
            refine lv_bipush (v := 13) hx hb dX14_blanks_31 (by decide) ?_
            refine lv_icmp_ne (tgt := 49) hx hb dX14_blanks_33 (by decide) (fun c_19 => ?_) (fun c_19 => ?_)
            · skip
              have c_19' : r_18.toInt ≠ 13 := jb_ne (rfl) ((by decide)) c_19
              try clear hr_18_2
              rw [hQ]
              exact W.vret hx hb hr (fun t ht hW => ⟨⟨wt_1, rfl, by first | omega | (refine ⟨?_, ?_⟩ <;> (first | omega | rfl | assumption | decide | exact Or.inl rfl | exact Or.inr rfl | (simp only; omega))), hh_17.rt (M1 := [(r0, 16, 29, .int wt_1)]) [0] rfl ht⟩, by rw [ht]; try exact hh_17.1.1, fun q h9 hq => by rw [ht]; try exact hh_17.1.2.1 q h9 hq⟩) hh_17.1.2.2 dX14_blanks_49
            · skip
              have c_19' : r_18.toInt = 13 := jb_ne_n (rfl) ((by decide)) c_19
              first | (have hr_18_2q := hr_18_2.resolve_left (by omega); clear hr_18_2) | (have hr_18_2q := hr_18_2.resolve_right (by omega); clear hr_18_2) | try clear hr_18_2
              refine lv_aload_n hx hb dX14_blanks_36 rfl (lv_at hl 0 rfl) ?_
              refine lv_dup hx hb dX14_blanks_37 rfl ?_
              refine j7_read hx hb hown hK (C := RX14) (T := TX14) (N := 74) rfl hly_16_29 hlk_273 (hh_17.at 0 rfl) dX14_blanks_38 ?_
              refine lv_iconst (v := 1) hx hb dX14_blanks_41 (by decide) ?_
              refine lv_iadd hx hb dX14_blanks_42 ?_
              refine lv_topi (fun z_20 ez_20 => ?_)
              have hz_20 : z_20.toInt = wt_1.toInt + 1 := by rw [ez_20]; exact jb_iadd2 (rfl) ((by decide)) (by omega)
              refine j7_put hx hb hown hK hh_17 hB hAp hB16 (C := RX14) (T := TX14) (N := 74) rfl (by decide) hg_r0 (i := 29) (by decide) hly_16_29 rfl hlk_273 rfl (ty := .int) (v := .int z_20) (by decide +kernel) rfl rfl (⟨_, rfl, by omega, by omega⟩) rfl (L1 := [(r0, 16, 30, .int pe)]) [1] rfl rfl rfl dX14_blanks_43 (fun H_21 locs_21 hh_21 => ?_)
              clear hh_17
              refine lv_goto (tgt := 0) hx hb dX14_blanks_46 (by decide) ?_
              exact L0 z_20 _ _ hh_21 (by first | omega | (refine ⟨?_, ?_⟩ <;> (first | omega | rfl | assumption | decide | exact Or.inl rfl | exact Or.inr rfl | (simp only; omega)))) (by omega) _ (lv_sub hl [0] rfl)
  exact L0 (((pe.toInt - (pt : Int32).toInt).toNat : Int) : Int).toNat.succ pt _ _ hh (by first | omega | (refine ⟨?_, ?_⟩ <;> (first | omega | rfl | assumption | decide | exact Or.inl rfl | exact Or.inr rfl | (simp only; omega)))) (by omega) _ (lv_sub hl [0] rfl)
set_option maxHeartbeats 4000000 in
set_option maxRecDepth 20000 in
theorem uX14_takes (l : Launch) (dC : Nat → ClassId) (dI : Nat → Nat → Nat) (ca : Nat → ClassId) (base : Nat) (B : jF) (hB : jBok B) (hAp : jAp (dC, dI)) (hB16 : ∀ n G a H, B 16 n G a H ↔ jOb (dC, dI) 16 74 (F16 n G) a H) (hB110 : ∀ n G a H, B 110 n G a H ↔ jAr (dC, dI) (ca 1) (fun j z => 0 ≤ z.toInt ∧ z.toInt ≤ 255) n a H) (G0 : jT) (H0 : Heap) (r0 : Nat) (r1 : Nat) (n1 : Nat) (pt : Int32) (pe : Int32) : Met l yX14_takes (jw yX14_takes cX14_takes 3 (some .boolean)) ({ frames := 4, cells := 0, slots := 0, locals := 141 }) (va_Pc [.ref r0, .ref r1] (fun U => U.heap = H0 ∧ jX B base G0 [] H0 ∧ jG dC dI ca base U ∧ jStr base r1 n1 U H0 ∧ G0 r0 = some (16, 0) ∧ jP (dC, dI) G0 H0 [(r0, 16, 29, .int pt), (r0, 16, 30, .int pe)] ∧ 0 ≤ pt.toInt ∧ pt.toInt ≤ 90000 ∧ 0 ≤ pe.toInt ∧ pe.toInt ≤ 3000 ∧ 1 ≤ n1 ∧ n1 ≤ 1000 ∧ pt.toInt ≤ pe.toInt)) (va_Qi (S := Int32) (fun r u => (r = 0 ∨ r = 1) ∧ (pt.toInt + r.toInt ≤ u.toInt ∧ u.toInt ≤ pt.toInt + 1000 * r.toInt ∧ u.toInt ≤ pe.toInt)) (fun u t => jRt (dC, dI) B base G0 EX14_takes H0 [(r0, 16, 29, .int u)] t.heap) (jA base)) 0 0 (jA base) := by
  refine Met.ofW (cc := cX14_takes) (maxL := 3) (ret := (some .boolean)) (by decide) rfl ?_
  intro p e s m args below meth c s₁ Bd hml hv
  obtain ⟨rfl, hH0, hX, hG, hstr_r1, hg_r0, hP0, hp0, hp1, hp2, hp3, hp4, hp5, hp6⟩ := hv
  have hK := hG.1
  have hx := Bd.exec
  have hb := Bd.bytes
  have hr := Bd.returns
  have hts := atoms_spec (ws := (jw yX14_takes cX14_takes 3 (some .boolean))) Bd.pre
  have htw : ∀ w ∈ jWl, w.before _ s = true := fun w h => hts w (List.mem_cons_of_mem _ h)
  have hown : s.vm.findClass RX14 = some m.cls := findClass_of_methodNamed Bd.named
  have hlocks := Bd.notSynchronized
  obtain ⟨Q, hQ⟩ : ∃ Q, Q = MQ below (va_Qi (S := Int32) (fun r u => (r = 0 ∨ r = 1) ∧ (pt.toInt + r.toInt ≤ u.toInt ∧ u.toInt ≤ pt.toInt + 1000 * r.toInt ∧ u.toInt ≤ pe.toInt)) (fun u t => jRt (dC, dI) B base G0 EX14_takes H0 [(r0, 16, 29, .int u)] t.heap) (jA base)) ([.ref r0, .ref r1] : List Value).toArray s 0 0 (jA base) := ⟨_, rfl⟩
  rw [← hQ]
  have hl := lv_entry ([.ref r0, .ref r1]) (n := 3) (Nat.le_of_ble_eq_true rfl)
  rw [lg_entry_eq]
  generalize (lg_sl ([.ref r0, .ref r1]) ++ List.replicate (3 - (lg_sl ([.ref r0, .ref r1])).length) Slot.unset).toArray = ls at hl ⊢
  have hl : lv_has ls 3 [(0, .ref r0), (1, .ref r1)] := hl
  generalize hR : (headSpec (jw yX14_takes cX14_takes 3 (some .boolean)) ({ frames := 4, cells := 0, slots := 0, locals := 141 })).room = R
  subst hH0
  have hh : jSt (dC, dI) B base G0 G0 EX14_takes s.heap 0 0 [(r0, 16, 29, .int pt), (r0, 16, 30, .int pe)] [] [] s.heap [] := jSt.start hX hP0 jMc.nil jIs.nil
  clear hX hP0
  have hk0 : (0 : Int32).toInt = 0 := by decide
  have hk1 : (1 : Int32).toInt = 1 := by decide
  have hly_16_9 := htw (u_lay RX14 TX14 9) (jWc_wsX140 _ (u_in_lay (by decide)))
  have hly_16_29 := htw (u_lay RX14 TX14 29) (jWc_wsX140 _ (u_in_lay (by decide)))
  have hly_16_30 := htw (u_lay RX14 TX14 30) (jWc_wsX140 _ (u_in_lay (by decide)))
  have hlk_273 := (htw (.fieldLink RX14 273 "ProofServerModel" "at" "I") (jWr_50 _ (List.mem_of_getElem? (i := 5) rfl)))
  have hlk_276 := (htw (.fieldLink RX14 276 "ProofServerModel" "end" "I") (jWr_50 _ (List.mem_of_getElem? (i := 6) rfl)))
  have hlk_20 := (htw (.fieldLink RX14 20 "ProofServerModel" "kept" "[I") (jWr_10 _ (List.mem_of_getElem? (i := 21) rfl)))
  refine lv_iconst (v := 0) hx hb dX14_takes_0 (by decide) ?_
  refine lv_istore_n (lv' := [(2, .int 0), (0, .ref r0), (1, .ref r1)]) hx hb dX14_takes_1 rfl hl (by decide) rfl (fun ls hl => ?_)
  have L2 : ∀ (N : Nat) (v2_1 : Int32) (H_1 : Heap) (locs_1 : List Loc), jSt (dC, dI) B base G0 G0 EX14_takes s.heap 0 0 [(r0, 16, 29, .int pt), (r0, 16, 30, .int pe)] [] [] H_1 locs_1 → (0 ≤ v2_1.toInt ∧ v2_1.toInt ≤ n1 ∧ pt.toInt + v2_1.toInt ≤ pe.toInt) → (n1 - v2_1.toInt : Int) < N → ∀ ls : Array Slot, lv_has ls 3 [(0, .ref r0), (1, .ref r1), (2, .int v2_1)] → W p l e R s m ([.ref r0, .ref r1] : List Value).toArray below meth c H_1 locs_1 0 0 Q (F0 m 2 ls []) := by
    intro N
    induction N with
    | zero => intro v2_1 H_1 locs_1 hh_1  hi_1 hm; exact absurd hm (by omega)
    | succ N L2 =>
      intro v2_1 H_1 locs_1 hh_1  hi_1 hm_1 ls hl
      obtain ⟨hi_1_0, hi_1_1, hi_1_2⟩ := hi_1
      refine lv_iload_n hx hb dX14_takes_2 rfl (lv_at hl 2 rfl) ?_
      refine lv_aload_n hx hb dX14_takes_3 rfl (lv_at hl 1 rfl) ?_
      refine vp_callSi (W.runV (As := []) (rest := [.int v2_1]) ⟨hx, hb, hml, hown, hts⟩ (wJ0_length_8abf5 l dC dI ca base H_1 r1 n1) (cwV 0 hts (jgV (jWr_49 _ (List.mem_of_getElem? (i := 1) rfl)) (jWr_5 _ (List.mem_of_getElem? (i := 13) rfl)) (jWr_5 _ (List.mem_of_getElem? (i := 14) rfl)) (jWr_5 _ (List.mem_of_getElem? (i := 15) rfl)) (jWr_5 _ (List.mem_of_getElem? (i := 16) rfl))) rfl rfl rfl (by decide +kernel) ⟨by rw [← hR]; exact Nat.le_of_ble_eq_true rfl, by rw [← hR]; exact Nat.le_of_ble_eq_true rfl⟩) ⟨fun a U g mk q => by obtain ⟨q0, q1, q2, qK, q9⟩ := q; exact ⟨q0, q1, (q2.moved (Vm.Alike.refl U.vm)), jG.calling g mk a qK, q9⟩, jStr_recv hstr_r1 hh_1.1, fun U hU hW => ⟨rfl, hU, (hstr_r1.moved hW.alike).kept hh_1.1.2.1, hG.step hW hU hh_1.1, by omega⟩⟩ rfl rfl hl.1 rfl (lv_room (Nat.le_of_ble_eq_true rfl)) dX14_takes_4 ⟨Nat.zero_le _, Nat.zero_le _⟩) (fun r_2 hr_2 => ?_)
      refine lv_icmp_ge (tgt := 50) hx hb dX14_takes_7 (by decide) (fun c_3 => ?_) (fun c_3 => ?_)
      · skip
        have c_3' : v2_1.toInt ≥ r_2.toInt := jb_ge (rfl) (rfl) c_3
        refine lv_aload_n hx hb dX14_takes_50 rfl (lv_at hl 0 rfl) ?_
        refine lv_dup hx hb dX14_takes_51 rfl ?_
        refine j7_read hx hb hown hK (C := RX14) (T := TX14) (N := 74) rfl hly_16_29 hlk_273 (hh_1.at 0 rfl) dX14_takes_52 ?_
        refine lv_aload_n hx hb dX14_takes_55 rfl (lv_at hl 1 rfl) ?_
        refine vp_callSi (W.runV (As := []) (rest := [.int pt, .ref r0]) ⟨hx, hb, hml, hown, hts⟩ (wJ0_length_8abf5 l dC dI ca base H_1 r1 n1) (cwV 0 hts (jgV (jWr_49 _ (List.mem_of_getElem? (i := 1) rfl)) (jWr_5 _ (List.mem_of_getElem? (i := 13) rfl)) (jWr_5 _ (List.mem_of_getElem? (i := 14) rfl)) (jWr_5 _ (List.mem_of_getElem? (i := 15) rfl)) (jWr_5 _ (List.mem_of_getElem? (i := 16) rfl))) rfl rfl rfl (by decide +kernel) ⟨by rw [← hR]; exact Nat.le_of_ble_eq_true rfl, by rw [← hR]; exact Nat.le_of_ble_eq_true rfl⟩) ⟨fun a U g mk q => by obtain ⟨q0, q1, q2, qK, q9⟩ := q; exact ⟨q0, q1, (q2.moved (Vm.Alike.refl U.vm)), jG.calling g mk a qK, q9⟩, jStr_recv hstr_r1 hh_1.1, fun U hU hW => ⟨rfl, hU, (hstr_r1.moved hW.alike).kept hh_1.1.2.1, hG.step hW hU hh_1.1, by omega⟩⟩ rfl rfl hl.1 rfl (lv_room (Nat.le_of_ble_eq_true rfl)) dX14_takes_56 ⟨Nat.zero_le _, Nat.zero_le _⟩) (fun r_4 hr_4 => ?_)
        refine lv_iadd hx hb dX14_takes_59 ?_
        refine lv_topi (fun z_5 ez_5 => ?_)
        have hz_5 : z_5.toInt = pt.toInt + r_4.toInt := by rw [ez_5]; exact jb_iadd2 (rfl) (rfl) (by omega)
        refine j7_put hx hb hown hK hh_1 hB hAp hB16 (C := RX14) (T := TX14) (N := 74) rfl (by decide) hg_r0 (i := 29) (by decide) hly_16_29 rfl hlk_273 rfl (ty := .int) (v := .int z_5) (by decide +kernel) rfl rfl (⟨_, rfl, by omega, by omega⟩) rfl (L1 := [(r0, 16, 30, .int pe)]) [1] rfl rfl rfl dX14_takes_60 (fun H_6 locs_6 hh_6 => ?_)
        clear hh_1
        refine lv_iconst (v := 1) hx hb dX14_takes_63 (by decide) ?_
        rw [hQ]
        exact W.zret (v := 1) hx hb hr (jb_nz (Or.inr rfl)) (fun t ht hW => ⟨⟨1, z_5, rfl, ⟨(Or.inr rfl), by first | omega | (refine ⟨?_, ?_, ?_⟩ <;> (first | omega | rfl | assumption | decide | exact Or.inl rfl | exact Or.inr rfl | (simp only; omega)))⟩, hh_6.rt (M1 := [(r0, 16, 29, .int z_5)]) [0] rfl ht⟩, by rw [ht]; try exact hh_6.1.1, fun q h9 hq => by rw [ht]; try exact hh_6.1.2.1 q h9 hq⟩) hh_6.1.2.2 dX14_takes_64
      · skip
        have c_3' : v2_1.toInt < r_2.toInt := jb_ge_n (rfl) (rfl) c_3
        refine lv_aload_n hx hb dX14_takes_10 rfl (lv_at hl 0 rfl) ?_
        refine j7_read hx hb hown hK (C := RX14) (T := TX14) (N := 74) rfl hly_16_29 hlk_273 (hh_1.at 0 rfl) dX14_takes_11 ?_
        refine lv_iload_n hx hb dX14_takes_14 rfl (lv_at hl 2 rfl) ?_
        refine lv_iadd hx hb dX14_takes_15 ?_
        refine lv_topi (fun z_7 ez_7 => ?_)
        have hz_7 : z_7.toInt = pt.toInt + v2_1.toInt := by rw [ez_7]; exact jb_iadd2 (rfl) (rfl) (by omega)
        refine lv_aload_n hx hb dX14_takes_16 rfl (lv_at hl 0 rfl) ?_
        refine j7_read hx hb hown hK (C := RX14) (T := TX14) (N := 74) rfl hly_16_30 hlk_276 (hh_1.at 1 rfl) dX14_takes_17 ?_
        refine lv_icmp_ge (tgt := 42) hx hb dX14_takes_20 (by decide) (fun c_8 => ?_) (fun c_8 => ?_)
        · skip
          have c_8' : z_7.toInt ≥ pe.toInt := jb_ge (rfl) (rfl) c_8
          refine lv_iconst (v := 0) hx hb dX14_takes_42 (by decide) ?_
          rw [hQ]
          exact W.zret (v := 0) hx hb hr (jb_nz (Or.inl rfl)) (fun t ht hW => ⟨⟨0, pt, rfl, ⟨(Or.inl rfl), by first | omega | (refine ⟨?_, ?_, ?_⟩ <;> (first | omega | rfl | assumption | decide | exact Or.inl rfl | exact Or.inr rfl | (simp only; omega)))⟩, hh_1.rt (M1 := [(r0, 16, 29, .int pt)]) [0] rfl ht⟩, by rw [ht]; try exact hh_1.1.1, fun q h9 hq => by rw [ht]; try exact hh_1.1.2.1 q h9 hq⟩) hh_1.1.2.2 dX14_takes_43
        · skip
          have c_8' : z_7.toInt < pe.toInt := jb_ge_n (rfl) (rfl) c_8
          refine lv_aload_n hx hb dX14_takes_23 rfl (lv_at hl 0 rfl) ?_
          obtain ⟨v_9, hv_9, hh_10⟩ := hh_1.pin (C := RX14) (T := TX14) (N := 74) hB16 rfl (by decide) hg_r0 (i := 9) (by decide) rfl
          clear hh_1
          obtain ⟨kept_11, rfl, hg_kept_11⟩ := hv_9
          refine j7_read hx hb hown hK (C := RX14) (T := TX14) (N := 74) rfl hly_16_9 hlk_20 (hh_10.at 0 rfl) dX14_takes_24 ?_
          refine lv_aload_n hx hb dX14_takes_27 rfl (lv_at hl 0 rfl) ?_
          refine j7_read hx hb hown hK (C := RX14) (T := TX14) (N := 74) rfl hly_16_29 hlk_273 (hh_10.at 1 rfl) dX14_takes_28 ?_
          refine lv_iload_n hx hb dX14_takes_31 rfl (lv_at hl 2 rfl) ?_
          refine lv_iadd hx hb dX14_takes_32 ?_
          refine lv_topi (fun z_12 ez_12 => ?_)
          have hz_12 : z_12.toInt = pt.toInt + v2_1.toInt := by rw [ez_12]; exact jb_iadd2 (rfl) (rfl) (by omega)
          refine j7_iald hx hb hK hh_10 hB110 1 rfl (by decide) hg_kept_11 (x := z_12.toInt) (rfl) (by omega) dX14_takes_33 (fun z_13 (hz_13 : 0 ≤ z_13.toInt ∧ z_13.toInt ≤ 255) => ?_)
          refine lv_aload_n hx hb dX14_takes_34 rfl (lv_at hl 1 rfl) ?_
          refine lv_iload_n hx hb dX14_takes_35 rfl (lv_at hl 2 rfl) ?_
          refine vp_callSi (W.runV (As := [.int v2_1]) (rest := [.int z_13]) ⟨hx, hb, hml, hown, hts⟩ (wJ0_charAt_5068e l dC dI ca base H_1 r1 n1 v2_1) (cwV 1 hts (jgV (jWr_49 _ (List.mem_of_getElem? (i := 13) rfl)) (jWr_6 _ (List.mem_of_getElem? (i := 1) rfl)) (jWr_6 _ (List.mem_of_getElem? (i := 2) rfl)) (jWr_5 _ (List.mem_of_getElem? (i := 15) rfl)) (jWr_6 _ (List.mem_of_getElem? (i := 3) rfl))) rfl rfl rfl (by decide +kernel) ⟨by rw [← hR]; exact Nat.le_of_ble_eq_true rfl, by rw [← hR]; exact Nat.le_of_ble_eq_true rfl⟩) ⟨fun a U g mk q => by obtain ⟨q0, q1, q2, qK, q9⟩ := q; exact ⟨q0, q1, (q2.moved (Vm.Alike.refl U.vm)), jG.calling g mk a qK, q9⟩, jStr_recv hstr_r1 hh_10.1, fun U hU hW => ⟨rfl, hU, (hstr_r1.moved hW.alike).kept hh_10.1.2.1, hG.step hW hU hh_10.1, ⟨by omega, by omega, by omega⟩⟩⟩ rfl rfl hl.1 rfl (lv_room (Nat.le_of_ble_eq_true rfl)) dX14_takes_36 ⟨Nat.zero_le _, Nat.zero_le _⟩) (fun r_14 hr_14 => ?_)
          refine lv_icmp_eq (tgt := 44) hx hb dX14_takes_39 (by decide) (fun c_15 => ?_) (fun c_15 => ?_)
          · skip
            have c_15' : z_13.toInt = r_14.toInt := jb_eq (rfl) (rfl) c_15
            obtain ⟨z_16, ez_16⟩ : ∃ y : Int32, y = v2_1 + 1 := ⟨_, rfl⟩
            refine lv_iinc (v := z_16) (lv' := [(2, .int z_16), (0, .ref r0), (1, .ref r1)]) hx hb dX14_takes_44 hl (k := 2) rfl (by rw [ez_16]; rfl) (by decide) rfl (fun ls hl => ?_)
            have hz_16 : z_16.toInt = v2_1.toInt + 1 := by rw [ez_16]; exact jb_iadd2 (rfl) (by decide) (by omega)
            refine lv_goto (tgt := 2) hx hb dX14_takes_47 (by decide) ?_
            exact L2 z_16 _ _ (hh_10.sub (L1 := [(r0, 16, 29, .int pt), (r0, 16, 30, .int pe)]) [1, 2] rfl (M1 := []) [] rfl (I1 := []) [] rfl) (by first | omega | (refine ⟨?_, ?_, ?_⟩ <;> (first | omega | rfl | assumption | decide | exact Or.inl rfl | exact Or.inr rfl | (simp only; omega)))) (by omega) _ (lv_sub hl [1, 2, 0] rfl)
          · skip
            have c_15' : z_13.toInt ≠ r_14.toInt := jb_eq_n (rfl) (rfl) c_15
            refine lv_iconst (v := 0) hx hb dX14_takes_42 (by decide) ?_
            rw [hQ]
            exact W.zret (v := 0) hx hb hr (jb_nz (Or.inl rfl)) (fun t ht hW => ⟨⟨0, pt, rfl, ⟨(Or.inl rfl), by first | omega | (refine ⟨?_, ?_, ?_⟩ <;> (first | omega | rfl | assumption | decide | exact Or.inl rfl | exact Or.inr rfl | (simp only; omega)))⟩, hh_10.rt (M1 := [(r0, 16, 29, .int pt)]) [1] rfl ht⟩, by rw [ht]; try exact hh_10.1.1, fun q h9 hq => by rw [ht]; try exact hh_10.1.2.1 q h9 hq⟩) hh_10.1.2.2 dX14_takes_43
  exact L2 (n1 - (0 : Int32).toInt : Int).toNat.succ 0 _ _ hh (by first | omega | (refine ⟨?_, ?_, ?_⟩ <;> (first | omega | rfl | assumption | decide | exact Or.inl rfl | exact Or.inr rfl | (simp only; omega)))) (by omega) _ (lv_sub hl [1, 2, 0] rfl)
set_option maxHeartbeats 4000000 in
set_option maxRecDepth 20000 in
theorem uX14_digits (l : Launch) (dC : Nat → ClassId) (dI : Nat → Nat → Nat) (ca : Nat → ClassId) (base : Nat) (B : jF) (hB : jBok B) (hAp : jAp (dC, dI)) (hB16 : ∀ n G a H, B 16 n G a H ↔ jOb (dC, dI) 16 74 (F16 n G) a H) (hB110 : ∀ n G a H, B 110 n G a H ↔ jAr (dC, dI) (ca 1) (fun j z => 0 ≤ z.toInt ∧ z.toInt ≤ 255) n a H) (G0 : jT) (H0 : Heap) (r0 : Nat) (pt : Int32) (pe : Int32) : Met l yX14_digits (jw yX14_digits cX14_digits 1 none) ({ frames := 2, cells := 0, slots := 0, locals := 42 }) (va_Pc [.ref r0] (fun U => U.heap = H0 ∧ jX B base G0 [] H0 ∧ jG dC dI ca base U ∧ G0 r0 = some (16, 0) ∧ jP (dC, dI) G0 H0 [(r0, 16, 29, .int pt), (r0, 16, 30, .int pe)] ∧ 0 ≤ pt.toInt ∧ pt.toInt ≤ 90000 ∧ 0 ≤ pe.toInt ∧ pe.toInt ≤ 3000 ∧ pt.toInt ≤ pe.toInt)) (va_Qv (S := Int32) (fun u => pt.toInt ≤ u.toInt ∧ u.toInt ≤ pe.toInt) (fun u t => jRt (dC, dI) B base G0 EX14_digits H0 [(r0, 16, 29, .int u)] t.heap) (jA base)) 0 0 (jA base) := by
  refine Met.ofW (cc := cX14_digits) (maxL := 1) (ret := none) (by decide) rfl ?_
  intro p e s m args below meth c s₁ Bd hml hv
  obtain ⟨rfl, hH0, hX, hG, hg_r0, hP0, hp0, hp1, hp2, hp3, hp4⟩ := hv
  have hK := hG.1
  have hx := Bd.exec
  have hb := Bd.bytes
  have hr := Bd.returns
  have hts := atoms_spec (ws := (jw yX14_digits cX14_digits 1 none)) Bd.pre
  have htw : ∀ w ∈ jWl, w.before _ s = true := fun w h => hts w (List.mem_cons_of_mem _ h)
  have hown : s.vm.findClass RX14 = some m.cls := findClass_of_methodNamed Bd.named
  have hlocks := Bd.notSynchronized
  obtain ⟨Q, hQ⟩ : ∃ Q, Q = MQ below (va_Qv (S := Int32) (fun u => pt.toInt ≤ u.toInt ∧ u.toInt ≤ pe.toInt) (fun u t => jRt (dC, dI) B base G0 EX14_digits H0 [(r0, 16, 29, .int u)] t.heap) (jA base)) ([.ref r0] : List Value).toArray s 0 0 (jA base) := ⟨_, rfl⟩
  rw [← hQ]
  have hl := lv_entry ([.ref r0]) (n := 1) (Nat.le_of_ble_eq_true rfl)
  rw [lg_entry_eq]
  generalize (lg_sl ([.ref r0]) ++ List.replicate (1 - (lg_sl ([.ref r0])).length) Slot.unset).toArray = ls at hl ⊢
  have hl : lv_has ls 1 [(0, .ref r0)] := hl
  generalize hR : (headSpec (jw yX14_digits cX14_digits 1 none) ({ frames := 2, cells := 0, slots := 0, locals := 42 })).room = R
  subst hH0
  have hh : jSt (dC, dI) B base G0 G0 EX14_digits s.heap 0 0 [(r0, 16, 29, .int pt), (r0, 16, 30, .int pe)] [] [] s.heap [] := jSt.start hX hP0 jMc.nil jIs.nil
  clear hX hP0
  have hk0 : (0 : Int32).toInt = 0 := by decide
  have hk1 : (1 : Int32).toInt = 1 := by decide
  have hly_16_29 := htw (u_lay RX14 TX14 29) (jWc_wsX140 _ (u_in_lay (by decide)))
  have hly_16_31 := htw (u_lay RX14 TX14 31) (jWc_wsX140 _ (u_in_lay (by decide)))
  have hlk_288 := (htw (.fieldLink RX14 288 "ProofServerModel" "bad" "Z") (jWr_50 _ (List.mem_of_getElem? (i := 9) rfl)))
  have hlk_273 := (htw (.fieldLink RX14 273 "ProofServerModel" "at" "I") (jWr_50 _ (List.mem_of_getElem? (i := 5) rfl)))
  refine lv_aload_n hx hb dX14_digits_0 rfl (lv_at hl 0 rfl) ?_
  refine va_calli (A0 := jA base) (H0 := s.heap) (va_runV (As := []) (rest := []) ⟨hx, hb, hml, hown, hts⟩ (uX14_here l dC dI ca base B hB hAp hB16 hB110 G0 s.heap r0 pt pe) (cwV 0 hts (jgV (jWr_50 _ (List.mem_of_getElem? (i := 20) rfl)) (jWr_50 _ (List.mem_of_getElem? (i := 21) rfl)) (jWr_50 _ (List.mem_of_getElem? (i := 22) rfl)) (jWr_1 _ (List.mem_of_getElem? (i := 5) rfl)) (jWr_50 _ (List.mem_of_getElem? (i := 23) rfl))) rfl rfl rfl (by decide +kernel) ⟨by rw [← hR]; exact Nat.le_of_ble_eq_true rfl, by rw [← hR]; exact Nat.le_of_ble_eq_true rfl⟩) ⟨fun a U g mk q => by obtain ⟨q0, q1, q2, qK, q10, q11, q12⟩ := q; exact ⟨q0, q1, q2, jG.calling g mk a qK, q10, q11, q12⟩, hh.recv (C := RX14) (T := TX14) (N := 74) hB16 rfl (by decide) hg_r0 hK, fun U hU hW => ⟨rfl, hU, hh.2.1, hG.step hW hU hh.1, hg_r0, (hh.2.2.1.sub (L1 := [(r0, 16, 29, .int pt), (r0, 16, 30, .int pe)]) [0, 1] rfl), by first | omega | (refine ⟨?_, ?_, ?_, ?_⟩ <;> (first | omega | rfl | assumption | decide | exact Or.inl rfl | exact Or.inr rfl | (simp only; omega)))⟩⟩ rfl rfl hl.1 rfl (lv_room (Nat.le_of_ble_eq_true rfl)) dX14_digits_1 ⟨Nat.zero_le _, Nat.zero_le _⟩) hh.1 (fun q _ h => h) (fun q h => h) (fun r_2 u_1 t_1 H_1 locs_1 ht_1 hvm_1 hr_2 hb_1 hz_1 hk_1 hS_1 => ?_)
  rw [ht_1] at hb_1
  obtain ⟨hb_11, hb_12, hb_13, hb_14, hb_15⟩ := hb_1
  have hh_1 : jSt (dC, dI) B base G0 G0 EX14_digits s.heap 0 0 [(r0, 16, 29, .int pt), (r0, 16, 30, .int pe)] [] [] H_1 locs_1 := ((hh.call hb_11 hb_12 hb_13 hb_14 hS_1 rfl (L1 := [(r0, 16, 29, .int pt), (r0, 16, 30, .int pe)]) [0, 1] rfl rfl (M1 := []) [] rfl rfl (I1 := []) [] rfl rfl).more hb_15)
  clear hh ht_1 hvm_1 hz_1 hk_1 hS_1 hb_11 hb_12 hb_13 hb_14 hb_15
  obtain ⟨hr_2_0, hr_2_1, hr_2_2⟩ := hr_2
  refine va_calli (A0 := jA base) (H0 := s.heap) (va_runS (As := [.int r_2]) (rest := []) ⟨hx, hb, hml, hown, hts⟩ (uX14_isDigit l dC dI ca base B hB hAp G0 H_1 r_2) (va_cwS 1 hts (jgS (jWr_49 _ (List.mem_of_getElem? (i := 18) rfl)) (jWr_49 _ (List.mem_of_getElem? (i := 19) rfl)) (jWr_1 _ (List.mem_of_getElem? (i := 5) rfl)) (jWr_49 _ (List.mem_of_getElem? (i := 20) rfl))) rfl rfl rfl (by decide +kernel) ⟨by rw [← hR]; exact Nat.le_of_ble_eq_true rfl, by rw [← hR]; exact Nat.le_of_ble_eq_true rfl⟩) ⟨fun a U g mk q => by obtain ⟨q0, q1, q2, qK, q10, q11⟩ := q; exact ⟨q0, q1, q2, jG.calling g mk a qK, q10, q11⟩, fun U hU hW => ⟨rfl, hU, hh_1.2.1, hG.step hW hU hh_1.1, jP.nil, trivial⟩⟩ rfl rfl hl.1 rfl (lv_room (Nat.le_of_ble_eq_true rfl)) dX14_digits_4 ⟨Nat.zero_le _, Nat.zero_le _⟩) hh_1.1 (fun q _ h => h) (fun q h => h) (fun r_4 u_3 t_3 H_3 locs_3 ht_3 hvm_3 hr_4 hb_3 hz_3 hk_3 hS_3 => ?_)
  rw [ht_3] at hb_3
  obtain ⟨hb_31, hb_32, hb_33, hb_34, hb_35⟩ := hb_3
  have hh_3 : jSt (dC, dI) B base G0 G0 EX14_digits s.heap 0 0 [(r0, 16, 29, .int pt), (r0, 16, 30, .int pe)] [] [] H_3 locs_3 := ((hh_1.call hb_31 hb_32 hb_33 hb_34 hS_3 rfl (L1 := [(r0, 16, 29, .int pt), (r0, 16, 30, .int pe)]) [0, 1] rfl rfl (M1 := []) [] rfl rfl (I1 := []) [] rfl rfl).more hb_35)
  clear hh_1 ht_3 hvm_3 hz_3 hk_3 hS_3 hb_31 hb_32 hb_33 hb_34 hb_35
  obtain ⟨hr_4b, hr_4p⟩ := hr_4
  obtain ⟨hr_4p_0, hr_4p_1⟩ := hr_4p
  have hr_4' := jb_01 hr_4b
  refine lv_if_ne (tgt := 15) hx hb dX14_digits_7 (by decide) (fun c_5 => ?_) (fun c_5 => ?_)
  · skip
    have c_5' : r_4.toInt ≠ 0 := jb_ne (rfl) ((by decide)) c_5
    first | (have hr_2_2q := hr_2_2.resolve_left (by omega); clear hr_2_2) | (have hr_2_2q := hr_2_2.resolve_right (by omega); clear hr_2_2) | try clear hr_2_2
    have L15 : ∀ (N : Nat) (wt_6 : Int32) (H_6 : Heap) (locs_6 : List Loc), jSt (dC, dI) B base G0 G0 EX14_digits s.heap 0 0 [(r0, 16, 29, .int wt_6), (r0, 16, 30, .int pe)] [] [] H_6 locs_6 → (pt.toInt ≤ wt_6.toInt ∧ wt_6.toInt ≤ pe.toInt) → (((pe.toInt - wt_6.toInt).toNat : Int) : Int) < N → ∀ ls : Array Slot, lv_has ls 1 [(0, .ref r0)] → W p l e R s m ([.ref r0] : List Value).toArray below meth c H_6 locs_6 0 0 Q (F0 m 15 ls []) := by
      intro N
      induction N with
      | zero => intro wt_6 H_6 locs_6 hh_6  hi_6 hm; exact absurd hm (by omega)
      | succ N L15 =>
        intro wt_6 H_6 locs_6 hh_6  hi_6 hm_6 ls hl
        obtain ⟨hi_6_0, hi_6_1⟩ := hi_6
        refine lv_aload_n hx hb dX14_digits_15 rfl (lv_at hl 0 rfl) ?_
        refine va_calli (A0 := jA base) (H0 := s.heap) (va_runV (As := []) (rest := []) ⟨hx, hb, hml, hown, hts⟩ (uX14_here l dC dI ca base B hB hAp hB16 hB110 G0 H_6 r0 wt_6 pe) (cwV 0 hts (jgV (jWr_50 _ (List.mem_of_getElem? (i := 20) rfl)) (jWr_50 _ (List.mem_of_getElem? (i := 21) rfl)) (jWr_50 _ (List.mem_of_getElem? (i := 22) rfl)) (jWr_1 _ (List.mem_of_getElem? (i := 5) rfl)) (jWr_50 _ (List.mem_of_getElem? (i := 23) rfl))) rfl rfl rfl (by decide +kernel) ⟨by rw [← hR]; exact Nat.le_of_ble_eq_true rfl, by rw [← hR]; exact Nat.le_of_ble_eq_true rfl⟩) ⟨fun a U g mk q => by obtain ⟨q0, q1, q2, qK, q10, q11, q12⟩ := q; exact ⟨q0, q1, q2, jG.calling g mk a qK, q10, q11, q12⟩, hh_6.recv (C := RX14) (T := TX14) (N := 74) hB16 rfl (by decide) hg_r0 hK, fun U hU hW => ⟨rfl, hU, hh_6.2.1, hG.step hW hU hh_6.1, hg_r0, (hh_6.2.2.1.sub (L1 := [(r0, 16, 29, .int wt_6), (r0, 16, 30, .int pe)]) [0, 1] rfl), by first | omega | (refine ⟨?_, ?_, ?_, ?_⟩ <;> (first | omega | rfl | assumption | decide | exact Or.inl rfl | exact Or.inr rfl | (simp only; omega)))⟩⟩ rfl rfl hl.1 rfl (lv_room (Nat.le_of_ble_eq_true rfl)) dX14_digits_16 ⟨Nat.zero_le _, Nat.zero_le _⟩) hh_6.1 (fun q _ h => h) (fun q h => h) (fun r_8 u_7 t_7 H_7 locs_7 ht_7 hvm_7 hr_8 hb_7 hz_7 hk_7 hS_7 => ?_)
        rw [ht_7] at hb_7
        obtain ⟨hb_71, hb_72, hb_73, hb_74, hb_75⟩ := hb_7
        have hh_7 : jSt (dC, dI) B base G0 G0 EX14_digits s.heap 0 0 [(r0, 16, 29, .int wt_6), (r0, 16, 30, .int pe)] [] [] H_7 locs_7 := ((hh_6.call hb_71 hb_72 hb_73 hb_74 hS_7 rfl (L1 := [(r0, 16, 29, .int wt_6), (r0, 16, 30, .int pe)]) [0, 1] rfl rfl (M1 := []) [] rfl rfl (I1 := []) [] rfl rfl).more hb_75)
        clear hh_6 ht_7 hvm_7 hz_7 hk_7 hS_7 hb_71 hb_72 hb_73 hb_74 hb_75
        obtain ⟨hr_8_0, hr_8_1, hr_8_2⟩ := hr_8
        refine va_calli (A0 := jA base) (H0 := s.heap) (va_runS (As := [.int r_8]) (rest := []) ⟨hx, hb, hml, hown, hts⟩ (uX14_isDigit l dC dI ca base B hB hAp G0 H_7 r_8) (va_cwS 1 hts (jgS (jWr_49 _ (List.mem_of_getElem? (i := 18) rfl)) (jWr_49 _ (List.mem_of_getElem? (i := 19) rfl)) (jWr_1 _ (List.mem_of_getElem? (i := 5) rfl)) (jWr_49 _ (List.mem_of_getElem? (i := 20) rfl))) rfl rfl rfl (by decide +kernel) ⟨by rw [← hR]; exact Nat.le_of_ble_eq_true rfl, by rw [← hR]; exact Nat.le_of_ble_eq_true rfl⟩) ⟨fun a U g mk q => by obtain ⟨q0, q1, q2, qK, q10, q11⟩ := q; exact ⟨q0, q1, q2, jG.calling g mk a qK, q10, q11⟩, fun U hU hW => ⟨rfl, hU, hh_7.2.1, hG.step hW hU hh_7.1, jP.nil, trivial⟩⟩ rfl rfl hl.1 rfl (lv_room (Nat.le_of_ble_eq_true rfl)) dX14_digits_19 ⟨Nat.zero_le _, Nat.zero_le _⟩) hh_7.1 (fun q _ h => h) (fun q h => h) (fun r_10 u_9 t_9 H_9 locs_9 ht_9 hvm_9 hr_10 hb_9 hz_9 hk_9 hS_9 => ?_)
        rw [ht_9] at hb_9
        obtain ⟨hb_91, hb_92, hb_93, hb_94, hb_95⟩ := hb_9
        have hh_9 : jSt (dC, dI) B base G0 G0 EX14_digits s.heap 0 0 [(r0, 16, 29, .int wt_6), (r0, 16, 30, .int pe)] [] [] H_9 locs_9 := ((hh_7.call hb_91 hb_92 hb_93 hb_94 hS_9 rfl (L1 := [(r0, 16, 29, .int wt_6), (r0, 16, 30, .int pe)]) [0, 1] rfl rfl (M1 := []) [] rfl rfl (I1 := []) [] rfl rfl).more hb_95)
        clear hh_7 ht_9 hvm_9 hz_9 hk_9 hS_9 hb_91 hb_92 hb_93 hb_94 hb_95
        obtain ⟨hr_10b, hr_10p⟩ := hr_10
        obtain ⟨hr_10p_0, hr_10p_1⟩ := hr_10p
        have hr_10' := jb_01 hr_10b
        refine lv_if_eq (tgt := 38) hx hb dX14_digits_22 (by decide) (fun c_11 => ?_) (fun c_11 => ?_)
        · skip
          have c_11' : r_10.toInt = 0 := jb_eq (rfl) ((by decide)) c_11
          first | (have hr_8_2q := hr_8_2.resolve_left (by omega); clear hr_8_2) | (have hr_8_2q := hr_8_2.resolve_right (by omega); clear hr_8_2) | try clear hr_8_2
          rw [hQ]
          exact W.vret hx hb hr (fun t ht hW => ⟨⟨wt_6, rfl, by first | omega | (refine ⟨?_, ?_⟩ <;> (first | omega | rfl | assumption | decide | exact Or.inl rfl | exact Or.inr rfl | (simp only; omega))), hh_9.rt (M1 := [(r0, 16, 29, .int wt_6)]) [0] rfl ht⟩, by rw [ht]; try exact hh_9.1.1, fun q h9 hq => by rw [ht]; try exact hh_9.1.2.1 q h9 hq⟩) hh_9.1.2.2 dX14_digits_38
        · skip
          have c_11' : r_10.toInt ≠ 0 := jb_eq_n (rfl) ((by decide)) c_11
          first | (have hr_8_2q := hr_8_2.resolve_left (by omega); clear hr_8_2) | (have hr_8_2q := hr_8_2.resolve_right (by omega); clear hr_8_2) | try clear hr_8_2
          refine lv_aload_n hx hb dX14_digits_25 rfl (lv_at hl 0 rfl) ?_
          refine lv_dup hx hb dX14_digits_26 rfl ?_
          refine j7_read hx hb hown hK (C := RX14) (T := TX14) (N := 74) rfl hly_16_29 hlk_273 (hh_9.at 0 rfl) dX14_digits_27 ?_
          refine lv_iconst (v := 1) hx hb dX14_digits_30 (by decide) ?_
          refine lv_iadd hx hb dX14_digits_31 ?_
          refine lv_topi (fun z_12 ez_12 => ?_)
          have hz_12 : z_12.toInt = wt_6.toInt + 1 := by rw [ez_12]; exact jb_iadd2 (rfl) ((by decide)) (by omega)
          refine j7_put hx hb hown hK hh_9 hB hAp hB16 (C := RX14) (T := TX14) (N := 74) rfl (by decide) hg_r0 (i := 29) (by decide) hly_16_29 rfl hlk_273 rfl (ty := .int) (v := .int z_12) (by decide +kernel) rfl rfl (⟨_, rfl, by omega, by omega⟩) rfl (L1 := [(r0, 16, 30, .int pe)]) [1] rfl rfl rfl dX14_digits_32 (fun H_13 locs_13 hh_13 => ?_)
          clear hh_9
          refine lv_goto (tgt := 15) hx hb dX14_digits_35 (by decide) ?_
          exact L15 z_12 _ _ hh_13 (by first | omega | (refine ⟨?_, ?_⟩ <;> (first | omega | rfl | assumption | decide | exact Or.inl rfl | exact Or.inr rfl | (simp only; omega)))) (by omega) _ (lv_sub hl [0] rfl)
    exact L15 (((pe.toInt - (pt : Int32).toInt).toNat : Int) : Int).toNat.succ pt _ _ hh_3 (by first | omega | (refine ⟨?_, ?_⟩ <;> (first | omega | rfl | assumption | decide | exact Or.inl rfl | exact Or.inr rfl | (simp only; omega)))) (by omega) _ (lv_sub hl [0] rfl)
  · skip
    have c_5' : r_4.toInt = 0 := jb_ne_n (rfl) ((by decide)) c_5
    first | (have hr_2_2q := hr_2_2.resolve_left (by omega); clear hr_2_2) | (have hr_2_2q := hr_2_2.resolve_right (by omega); clear hr_2_2) | try clear hr_2_2
    refine lv_aload_n hx hb dX14_digits_10 rfl (lv_at hl 0 rfl) ?_
    refine lv_iconst (v := 1) hx hb dX14_digits_11 (by decide) ?_
    refine j7_put hx hb hown hK hh_3 hB hAp hB16 (C := RX14) (T := TX14) (N := 74) rfl (by decide) hg_r0 (i := 31) (by decide) hly_16_31 rfl hlk_288 rfl (ty := .boolean) (v := .int 1) (by decide +kernel) (jb_nz (Or.inr rfl)) (jb_fz (Or.inr rfl)) (⟨_, rfl, (Or.inr rfl)⟩) rfl (L1 := [(r0, 16, 29, .int pt), (r0, 16, 30, .int pe)]) [0, 1] rfl rfl rfl dX14_digits_12 (fun H_14 locs_14 hh_14 => ?_)
    clear hh_3
    have L15 : ∀ (N : Nat) (wt_15 : Int32) (H_15 : Heap) (locs_15 : List Loc), jSt (dC, dI) B base G0 G0 EX14_digits s.heap 0 0 [(r0, 16, 29, .int wt_15), (r0, 16, 31, .int 1), (r0, 16, 30, .int pe)] [] [] H_15 locs_15 → (pt.toInt ≤ wt_15.toInt ∧ wt_15.toInt ≤ pe.toInt) → (((pe.toInt - wt_15.toInt).toNat : Int) : Int) < N → ∀ ls : Array Slot, lv_has ls 1 [(0, .ref r0)] → W p l e R s m ([.ref r0] : List Value).toArray below meth c H_15 locs_15 0 0 Q (F0 m 15 ls []) := by
      intro N
      induction N with
      | zero => intro wt_15 H_15 locs_15 hh_15  hi_15 hm; exact absurd hm (by omega)
      | succ N L15 =>
        intro wt_15 H_15 locs_15 hh_15  hi_15 hm_15 ls hl
        obtain ⟨hi_15_0, hi_15_1⟩ := hi_15
        refine lv_aload_n hx hb dX14_digits_15 rfl (lv_at hl 0 rfl) ?_
        refine va_calli (A0 := jA base) (H0 := s.heap) (va_runV (As := []) (rest := []) ⟨hx, hb, hml, hown, hts⟩ (uX14_here l dC dI ca base B hB hAp hB16 hB110 G0 H_15 r0 wt_15 pe) (cwV 0 hts (jgV (jWr_50 _ (List.mem_of_getElem? (i := 20) rfl)) (jWr_50 _ (List.mem_of_getElem? (i := 21) rfl)) (jWr_50 _ (List.mem_of_getElem? (i := 22) rfl)) (jWr_1 _ (List.mem_of_getElem? (i := 5) rfl)) (jWr_50 _ (List.mem_of_getElem? (i := 23) rfl))) rfl rfl rfl (by decide +kernel) ⟨by rw [← hR]; exact Nat.le_of_ble_eq_true rfl, by rw [← hR]; exact Nat.le_of_ble_eq_true rfl⟩) ⟨fun a U g mk q => by obtain ⟨q0, q1, q2, qK, q10, q11, q12⟩ := q; exact ⟨q0, q1, q2, jG.calling g mk a qK, q10, q11, q12⟩, hh_15.recv (C := RX14) (T := TX14) (N := 74) hB16 rfl (by decide) hg_r0 hK, fun U hU hW => ⟨rfl, hU, hh_15.2.1, hG.step hW hU hh_15.1, hg_r0, (hh_15.2.2.1.sub (L1 := [(r0, 16, 29, .int wt_15), (r0, 16, 30, .int pe)]) [0, 2] rfl), by first | omega | (refine ⟨?_, ?_, ?_, ?_⟩ <;> (first | omega | rfl | assumption | decide | exact Or.inl rfl | exact Or.inr rfl | (simp only; omega)))⟩⟩ rfl rfl hl.1 rfl (lv_room (Nat.le_of_ble_eq_true rfl)) dX14_digits_16 ⟨Nat.zero_le _, Nat.zero_le _⟩) hh_15.1 (fun q _ h => h) (fun q h => h) (fun r_17 u_16 t_16 H_16 locs_16 ht_16 hvm_16 hr_17 hb_16 hz_16 hk_16 hS_16 => ?_)
        rw [ht_16] at hb_16
        obtain ⟨hb_161, hb_162, hb_163, hb_164, hb_165⟩ := hb_16
        have hh_16 : jSt (dC, dI) B base G0 G0 EX14_digits s.heap 0 0 [(r0, 16, 29, .int wt_15), (r0, 16, 31, .int 1), (r0, 16, 30, .int pe)] [] [] H_16 locs_16 := ((hh_15.call hb_161 hb_162 hb_163 hb_164 hS_16 rfl (L1 := [(r0, 16, 29, .int wt_15), (r0, 16, 31, .int 1), (r0, 16, 30, .int pe)]) [0, 1, 2] rfl rfl (M1 := []) [] rfl rfl (I1 := []) [] rfl rfl).more hb_165)
        clear hh_15 ht_16 hvm_16 hz_16 hk_16 hS_16 hb_161 hb_162 hb_163 hb_164 hb_165
        obtain ⟨hr_17_0, hr_17_1, hr_17_2⟩ := hr_17
        refine va_calli (A0 := jA base) (H0 := s.heap) (va_runS (As := [.int r_17]) (rest := []) ⟨hx, hb, hml, hown, hts⟩ (uX14_isDigit l dC dI ca base B hB hAp G0 H_16 r_17) (va_cwS 1 hts (jgS (jWr_49 _ (List.mem_of_getElem? (i := 18) rfl)) (jWr_49 _ (List.mem_of_getElem? (i := 19) rfl)) (jWr_1 _ (List.mem_of_getElem? (i := 5) rfl)) (jWr_49 _ (List.mem_of_getElem? (i := 20) rfl))) rfl rfl rfl (by decide +kernel) ⟨by rw [← hR]; exact Nat.le_of_ble_eq_true rfl, by rw [← hR]; exact Nat.le_of_ble_eq_true rfl⟩) ⟨fun a U g mk q => by obtain ⟨q0, q1, q2, qK, q10, q11⟩ := q; exact ⟨q0, q1, q2, jG.calling g mk a qK, q10, q11⟩, fun U hU hW => ⟨rfl, hU, hh_16.2.1, hG.step hW hU hh_16.1, jP.nil, trivial⟩⟩ rfl rfl hl.1 rfl (lv_room (Nat.le_of_ble_eq_true rfl)) dX14_digits_19 ⟨Nat.zero_le _, Nat.zero_le _⟩) hh_16.1 (fun q _ h => h) (fun q h => h) (fun r_19 u_18 t_18 H_18 locs_18 ht_18 hvm_18 hr_19 hb_18 hz_18 hk_18 hS_18 => ?_)
        rw [ht_18] at hb_18
        obtain ⟨hb_181, hb_182, hb_183, hb_184, hb_185⟩ := hb_18
        have hh_18 : jSt (dC, dI) B base G0 G0 EX14_digits s.heap 0 0 [(r0, 16, 29, .int wt_15), (r0, 16, 31, .int 1), (r0, 16, 30, .int pe)] [] [] H_18 locs_18 := ((hh_16.call hb_181 hb_182 hb_183 hb_184 hS_18 rfl (L1 := [(r0, 16, 29, .int wt_15), (r0, 16, 31, .int 1), (r0, 16, 30, .int pe)]) [0, 1, 2] rfl rfl (M1 := []) [] rfl rfl (I1 := []) [] rfl rfl).more hb_185)
        clear hh_16 ht_18 hvm_18 hz_18 hk_18 hS_18 hb_181 hb_182 hb_183 hb_184 hb_185
        obtain ⟨hr_19b, hr_19p⟩ := hr_19
        obtain ⟨hr_19p_0, hr_19p_1⟩ := hr_19p
        have hr_19' := jb_01 hr_19b
        refine lv_if_eq (tgt := 38) hx hb dX14_digits_22 (by decide) (fun c_20 => ?_) (fun c_20 => ?_)
        · skip
          have c_20' : r_19.toInt = 0 := jb_eq (rfl) ((by decide)) c_20
          first | (have hr_17_2q := hr_17_2.resolve_left (by omega); clear hr_17_2) | (have hr_17_2q := hr_17_2.resolve_right (by omega); clear hr_17_2) | try clear hr_17_2
          rw [hQ]
          exact W.vret hx hb hr (fun t ht hW => ⟨⟨wt_15, rfl, by first | omega | (refine ⟨?_, ?_⟩ <;> (first | omega | rfl | assumption | decide | exact Or.inl rfl | exact Or.inr rfl | (simp only; omega))), hh_18.rt (M1 := [(r0, 16, 29, .int wt_15)]) [0] rfl ht⟩, by rw [ht]; try exact hh_18.1.1, fun q h9 hq => by rw [ht]; try exact hh_18.1.2.1 q h9 hq⟩) hh_18.1.2.2 dX14_digits_38
        · skip
          have c_20' : r_19.toInt ≠ 0 := jb_eq_n (rfl) ((by decide)) c_20
          first | (have hr_17_2q := hr_17_2.resolve_left (by omega); clear hr_17_2) | (have hr_17_2q := hr_17_2.resolve_right (by omega); clear hr_17_2) | try clear hr_17_2
          refine lv_aload_n hx hb dX14_digits_25 rfl (lv_at hl 0 rfl) ?_
          refine lv_dup hx hb dX14_digits_26 rfl ?_
          refine j7_read hx hb hown hK (C := RX14) (T := TX14) (N := 74) rfl hly_16_29 hlk_273 (hh_18.at 0 rfl) dX14_digits_27 ?_
          refine lv_iconst (v := 1) hx hb dX14_digits_30 (by decide) ?_
          refine lv_iadd hx hb dX14_digits_31 ?_
          refine lv_topi (fun z_21 ez_21 => ?_)
          have hz_21 : z_21.toInt = wt_15.toInt + 1 := by rw [ez_21]; exact jb_iadd2 (rfl) ((by decide)) (by omega)
          refine j7_put hx hb hown hK hh_18 hB hAp hB16 (C := RX14) (T := TX14) (N := 74) rfl (by decide) hg_r0 (i := 29) (by decide) hly_16_29 rfl hlk_273 rfl (ty := .int) (v := .int z_21) (by decide +kernel) rfl rfl (⟨_, rfl, by omega, by omega⟩) rfl (L1 := [(r0, 16, 31, .int 1), (r0, 16, 30, .int pe)]) [1, 2] rfl rfl rfl dX14_digits_32 (fun H_22 locs_22 hh_22 => ?_)
          clear hh_18
          refine lv_goto (tgt := 15) hx hb dX14_digits_35 (by decide) ?_
          exact L15 z_21 _ _ hh_22 (by first | omega | (refine ⟨?_, ?_⟩ <;> (first | omega | rfl | assumption | decide | exact Or.inl rfl | exact Or.inr rfl | (simp only; omega)))) (by omega) _ (lv_sub hl [0] rfl)
    exact L15 (((pe.toInt - (pt : Int32).toInt).toNat : Int) : Int).toNat.succ pt _ _ (hh_14.sub (L1 := [(r0, 16, 29, .int pt), (r0, 16, 31, .int 1), (r0, 16, 30, .int pe)]) [1, 0, 2] rfl (M1 := []) [] rfl (I1 := []) [] rfl) (by first | omega | (refine ⟨?_, ?_⟩ <;> (first | omega | rfl | assumption | decide | exact Or.inl rfl | exact Or.inr rfl | (simp only; omega)))) (by omega) _ (lv_sub hl [0] rfl)
set_option maxHeartbeats 4000000 in
set_option maxRecDepth 20000 in
theorem uX14_unit (l : Launch) (dC : Nat → ClassId) (dI : Nat → Nat → Nat) (ca : Nat → ClassId) (base : Nat) (B : jF) (hB : jBok B) (hAp : jAp (dC, dI)) (hB16 : ∀ n G a H, B 16 n G a H ↔ jOb (dC, dI) 16 74 (F16 n G) a H) (hB127 : ∀ n G a H, B 127 n G a H ↔ jAr (dC, dI) (ca 1) (fun j z => True) n a H) (G0 : jT) (H0 : Heap) (r0 : Nat) (a1 : Int32) (pp : Int32) : Met l yX14_unit (jw yX14_unit cX14_unit 2 none) ({ frames := 0, cells := 0, slots := 0, locals := 0 }) (va_Pc [.ref r0, .int a1] (fun U => U.heap = H0 ∧ jX B base G0 [] H0 ∧ jG dC dI ca base U ∧ G0 r0 = some (16, 0) ∧ jP (dC, dI) G0 H0 [(r0, 16, 28, .int pp)] ∧ 0 ≤ pp.toInt ∧ pp.toInt ≤ 3298)) (va_Qv (S := Int32) (fun u => pp.toInt < u.toInt ∧ u.toInt ≤ pp.toInt + 2 ∧ (u.toInt = pp.toInt + 1 ∨ 65535 < a1.toInt)) (fun u t => jRt (dC, dI) B base G0 EX14_unit H0 [(r0, 16, 28, .int u)] t.heap) (jA base)) 0 0 (jA base) := by
  refine Met.ofW (cc := cX14_unit) (maxL := 2) (ret := none) (by decide) rfl ?_
  intro p e s m args below meth c s₁ Bd hml hv
  obtain ⟨rfl, hH0, hX, hG, hg_r0, hP0, hp0, hp1⟩ := hv
  have hK := hG.1
  have hx := Bd.exec
  have hb := Bd.bytes
  have hr := Bd.returns
  have hts := atoms_spec (ws := (jw yX14_unit cX14_unit 2 none)) Bd.pre
  have htw : ∀ w ∈ jWl, w.before _ s = true := fun w h => hts w (List.mem_cons_of_mem _ h)
  have hown : s.vm.findClass RX14 = some m.cls := findClass_of_methodNamed Bd.named
  have hlocks := Bd.notSynchronized
  obtain ⟨Q, hQ⟩ : ∃ Q, Q = MQ below (va_Qv (S := Int32) (fun u => pp.toInt < u.toInt ∧ u.toInt ≤ pp.toInt + 2 ∧ (u.toInt = pp.toInt + 1 ∨ 65535 < a1.toInt)) (fun u t => jRt (dC, dI) B base G0 EX14_unit H0 [(r0, 16, 28, .int u)] t.heap) (jA base)) ([.ref r0, .int a1] : List Value).toArray s 0 0 (jA base) := ⟨_, rfl⟩
  rw [← hQ]
  have hl := lv_entry ([.ref r0, .int a1]) (n := 2) (Nat.le_of_ble_eq_true rfl)
  rw [lg_entry_eq]
  generalize (lg_sl ([.ref r0, .int a1]) ++ List.replicate (2 - (lg_sl ([.ref r0, .int a1])).length) Slot.unset).toArray = ls at hl ⊢
  have hl : lv_has ls 2 [(0, .ref r0), (1, .int a1)] := hl
  generalize hR : (headSpec (jw yX14_unit cX14_unit 2 none) ({ frames := 0, cells := 0, slots := 0, locals := 0 })).room = R
  subst hH0
  have hh : jSt (dC, dI) B base G0 G0 EX14_unit s.heap 0 0 [(r0, 16, 28, .int pp)] [] [] s.heap [] := jSt.start hX hP0 jMc.nil jIs.nil
  clear hX hP0
  have hk0 : (0 : Int32).toInt = 0 := by decide
  have hk1 : (1 : Int32).toInt = 1 := by decide
  have hk2 : (2 : Int32).toInt = 2 := by decide
  have hk10 : (10 : Int32).toInt = 10 := by decide
  have hk1023 : (1023 : Int32).toInt = 1023 := by decide
  have hk55296 : (55296 : Int32).toInt = 55296 := by decide
  have hk56320 : (56320 : Int32).toInt = 56320 := by decide
  have hk65535 : (65535 : Int32).toInt = 65535 := by decide
  have hk65536 : (65536 : Int32).toInt = 65536 := by decide
  have hly_16_27 := htw (u_lay RX14 TX14 27) (jWc_wsX140 _ (u_in_lay (by decide)))
  have hly_16_28 := htw (u_lay RX14 TX14 28) (jWc_wsX140 _ (u_in_lay (by decide)))
  have hcs_333 := htw (.constant RX14 333 65535) (jWr_52 _ (List.mem_of_getElem? (i := 1) rfl))
  have hlk_65 := (htw (.fieldLink RX14 65 "ProofServerModel" "pool" "[I") (jWr_11 _ (List.mem_of_getElem? (i := 14) rfl)))
  have hlk_304 := (htw (.fieldLink RX14 304 "ProofServerModel" "pooled" "I") (jWr_50 _ (List.mem_of_getElem? (i := 8) rfl)))
  have hcs_179 := htw (.constant RX14 179 55296) (jWr_51 _ (List.mem_of_getElem? (i := 18) rfl))
  have hcs_197 := htw (.constant RX14 197 65536) (jWr_52 _ (List.mem_of_getElem? (i := 2) rfl))
  have hcs_185 := htw (.constant RX14 185 56320) (jWr_51 _ (List.mem_of_getElem? (i := 16) rfl))
  have hrg_a1 := jb_rng a1
  refine lv_iload_n hx hb dX14_unit_0 rfl (lv_at hl 1 rfl) ?_
  refine lv_ldcw hx hb hown hcs_333 dX14_unit_1 ?_
  refine lv_icmp_le (tgt := 61) hx hb dX14_unit_4 (by decide) (fun c_1 => ?_) (fun c_1 => ?_)
  · skip
    have c_1' : a1.toInt ≤ 65535 := jb_le (rfl) ((by decide)) c_1
    refine lv_aload_n hx hb dX14_unit_61 rfl (lv_at hl 0 rfl) ?_
    obtain ⟨v_2, hv_2, hh_3⟩ := hh.pin (C := RX14) (T := TX14) (N := 74) hB16 rfl (by decide) hg_r0 (i := 27) (by decide) rfl
    clear hh
    obtain ⟨pool_4, rfl, hg_pool_4⟩ := hv_2
    refine j7_read hx hb hown hK (C := RX14) (T := TX14) (N := 74) rfl hly_16_27 hlk_65 (hh_3.at 0 rfl) dX14_unit_62 ?_
    refine lv_aload_n hx hb dX14_unit_65 rfl (lv_at hl 0 rfl) ?_
    refine j7_read hx hb hown hK (C := RX14) (T := TX14) (N := 74) rfl hly_16_28 hlk_304 (hh_3.at 1 rfl) dX14_unit_66 ?_
    refine lv_iload_n hx hb dX14_unit_69 rfl (lv_at hl 1 rfl) ?_
    refine j7_iast hx hb hK hh_3 hB hB127 1 rfl (by decide) (by decide) rfl rfl rfl hg_pool_4 (x := pp.toInt) (rfl) (by omega) (trivial) dX14_unit_70 (fun H_5 locs_5 hh_5 => ?_)
    clear hh_3
    refine lv_aload_n hx hb dX14_unit_71 rfl (lv_at hl 0 rfl) ?_
    refine lv_dup hx hb dX14_unit_72 rfl ?_
    refine j7_read hx hb hown hK (C := RX14) (T := TX14) (N := 74) rfl hly_16_28 hlk_304 (hh_5.at 1 rfl) dX14_unit_73 ?_
    refine lv_iconst (v := 1) hx hb dX14_unit_76 (by decide) ?_
    refine lv_iadd hx hb dX14_unit_77 ?_
    refine lv_topi (fun z_6 ez_6 => ?_)
    have hz_6 : z_6.toInt = pp.toInt + 1 := by rw [ez_6]; exact jb_iadd2 (rfl) ((by decide)) (by omega)
    refine j7_put hx hb hown hK hh_5 hB hAp hB16 (C := RX14) (T := TX14) (N := 74) rfl (by decide) hg_r0 (i := 28) (by decide) hly_16_28 rfl hlk_304 rfl (ty := .int) (v := .int z_6) (by decide +kernel) rfl rfl (⟨_, rfl, by omega, by omega⟩) rfl (L1 := [(r0, 16, 27, .ref pool_4)]) [0] rfl rfl rfl dX14_unit_78 (fun H_7 locs_7 hh_7 => ?_)
    clear hh_5
    rw [hQ]
    exact W.vret hx hb hr (fun t ht hW => ⟨⟨z_6, rfl, by first | omega | (refine ⟨?_, ?_, ?_⟩ <;> (first | omega | rfl | assumption | decide | exact Or.inl rfl | exact Or.inr rfl | (simp only; omega))), hh_7.rt (M1 := [(r0, 16, 28, .int z_6)]) [0] rfl ht⟩, by rw [ht]; try exact hh_7.1.1, fun q h9 hq => by rw [ht]; try exact hh_7.1.2.1 q h9 hq⟩) hh_7.1.2.2 dX14_unit_81
  · skip
    have c_1' : a1.toInt > 65535 := jb_le_n (rfl) ((by decide)) c_1
    refine lv_aload_n hx hb dX14_unit_7 rfl (lv_at hl 0 rfl) ?_
    obtain ⟨v_8, hv_8, hh_9⟩ := hh.pin (C := RX14) (T := TX14) (N := 74) hB16 rfl (by decide) hg_r0 (i := 27) (by decide) rfl
    clear hh
    obtain ⟨pool_10, rfl, hg_pool_10⟩ := hv_8
    refine j7_read hx hb hown hK (C := RX14) (T := TX14) (N := 74) rfl hly_16_27 hlk_65 (hh_9.at 0 rfl) dX14_unit_8 ?_
    refine lv_aload_n hx hb dX14_unit_11 rfl (lv_at hl 0 rfl) ?_
    refine j7_read hx hb hown hK (C := RX14) (T := TX14) (N := 74) rfl hly_16_28 hlk_304 (hh_9.at 1 rfl) dX14_unit_12 ?_
    refine lv_ldc hx hb hown hcs_179 dX14_unit_15 ?_
    refine lv_iload_n hx hb dX14_unit_17 rfl (lv_at hl 1 rfl) ?_
    refine lv_ldc hx hb hown hcs_197 dX14_unit_18 ?_
    refine lv_isub hx hb dX14_unit_20 ?_
    refine lv_topi (fun z_11 ez_11 => ?_)
    have hz_11 : z_11.toInt = a1.toInt - 65536 := by rw [ez_11]; exact jb_isub2 (rfl) ((by decide)) (by omega)
    refine lv_bipush (v := 10) hx hb dX14_unit_21 (by decide) ?_
    refine lv_ishr hx hb dX14_unit_23 ?_
    refine lv_topi (fun z_12 ez_12 => ?_)
    have hz_12 : z_12.toInt = z_11.toInt / 2 ^ 10 := by rw [ez_12]; exact jb_ishr 10 (rfl) (by decide)
    refine lv_iadd hx hb dX14_unit_24 ?_
    refine lv_topi (fun z_13 ez_13 => ?_)
    have hz_13 : z_13.toInt = 55296 + z_12.toInt := by rw [ez_13]; exact jb_iadd2 ((by decide)) (rfl) (by omega)
    refine j7_iast hx hb hK hh_9 hB hB127 1 rfl (by decide) (by decide) rfl rfl rfl hg_pool_10 (x := pp.toInt) (rfl) (by omega) (trivial) dX14_unit_25 (fun H_14 locs_14 hh_14 => ?_)
    clear hh_9
    refine lv_aload_n hx hb dX14_unit_26 rfl (lv_at hl 0 rfl) ?_
    refine j7_read hx hb hown hK (C := RX14) (T := TX14) (N := 74) rfl hly_16_27 hlk_65 (hh_14.at 0 rfl) dX14_unit_27 ?_
    refine lv_aload_n hx hb dX14_unit_30 rfl (lv_at hl 0 rfl) ?_
    refine j7_read hx hb hown hK (C := RX14) (T := TX14) (N := 74) rfl hly_16_28 hlk_304 (hh_14.at 1 rfl) dX14_unit_31 ?_
    refine lv_iconst (v := 1) hx hb dX14_unit_34 (by decide) ?_
    refine lv_iadd hx hb dX14_unit_35 ?_
    refine lv_topi (fun z_15 ez_15 => ?_)
    have hz_15 : z_15.toInt = pp.toInt + 1 := by rw [ez_15]; exact jb_iadd2 (rfl) ((by decide)) (by omega)
    refine lv_ldc hx hb hown hcs_185 dX14_unit_36 ?_
    refine lv_iload_n hx hb dX14_unit_38 rfl (lv_at hl 1 rfl) ?_
    refine lv_ldc hx hb hown hcs_197 dX14_unit_39 ?_
    refine lv_isub hx hb dX14_unit_41 ?_
    refine lv_topi (fun z_16 ez_16 => ?_)
    have hz_16 : z_16.toInt = a1.toInt - 65536 := by rw [ez_16]; exact jb_isub2 (rfl) ((by decide)) (by omega)
    refine lv_sipush (v := 1023) hx hb dX14_unit_42 (by decide) ?_
    refine lv_iand hx hb dX14_unit_45 ?_
    refine lv_topi (fun z_17 ez_17 => ?_)
    have hz_17 : 0 ≤ z_17.toInt ∧ z_17.toInt ≤ 1023 := by rw [ez_17]; exact jb_and z_16 (m := 1023) (k := 10) (by decide) (by decide)
    refine lv_iadd hx hb dX14_unit_46 ?_
    refine lv_topi (fun z_18 ez_18 => ?_)
    have hz_18 : z_18.toInt = 56320 + z_17.toInt := by rw [ez_18]; exact jb_iadd2 ((by decide)) (rfl) (by omega)
    refine j7_iast hx hb hK hh_14 hB hB127 1 rfl (by decide) (by decide) rfl rfl rfl hg_pool_10 (x := z_15.toInt) (rfl) (by omega) (trivial) dX14_unit_47 (fun H_19 locs_19 hh_19 => ?_)
    clear hh_14
    refine lv_aload_n hx hb dX14_unit_48 rfl (lv_at hl 0 rfl) ?_
    refine lv_dup hx hb dX14_unit_49 rfl ?_
    refine j7_read hx hb hown hK (C := RX14) (T := TX14) (N := 74) rfl hly_16_28 hlk_304 (hh_19.at 1 rfl) dX14_unit_50 ?_
    refine lv_iconst (v := 2) hx hb dX14_unit_53 (by decide) ?_
    refine lv_iadd hx hb dX14_unit_54 ?_
    refine lv_topi (fun z_20 ez_20 => ?_)
    have hz_20 : z_20.toInt = pp.toInt + 2 := by rw [ez_20]; exact jb_iadd2 (rfl) ((by decide)) (by omega)
    refine j7_put hx hb hown hK hh_19 hB hAp hB16 (C := RX14) (T := TX14) (N := 74) rfl (by decide) hg_r0 (i := 28) (by decide) hly_16_28 rfl hlk_304 rfl (ty := .int) (v := .int z_20) (by decide +kernel) rfl rfl (⟨_, rfl, by omega, by omega⟩) rfl (L1 := [(r0, 16, 27, .ref pool_10)]) [0] rfl rfl rfl dX14_unit_55 (fun H_21 locs_21 hh_21 => ?_)
    clear hh_19
    refine lv_goto (tgt := 81) hx hb dX14_unit_58 (by decide) ?_
    rw [hQ]
    exact W.vret hx hb hr (fun t ht hW => ⟨⟨z_20, rfl, by first | omega | (refine ⟨?_, ?_, ?_⟩ <;> (first | omega | rfl | assumption | decide | exact Or.inl rfl | exact Or.inr rfl | (simp only; omega))), hh_21.rt (M1 := [(r0, 16, 28, .int z_20)]) [0] rfl ht⟩, by rw [ht]; try exact hh_21.1.1, fun q h9 hq => by rw [ht]; try exact hh_21.1.2.1 q h9 hq⟩) hh_21.1.2.2 dX14_unit_81
set_option maxHeartbeats 4000000 in
set_option maxRecDepth 20000 in
theorem uX14_four (l : Launch) (dC : Nat → ClassId) (dI : Nat → Nat → Nat) (ca : Nat → ClassId) (base : Nat) (B : jF) (hB : jBok B) (hAp : jAp (dC, dI)) (hB16 : ∀ n G a H, B 16 n G a H ↔ jOb (dC, dI) 16 74 (F16 n G) a H) (hB110 : ∀ n G a H, B 110 n G a H ↔ jAr (dC, dI) (ca 1) (fun j z => 0 ≤ z.toInt ∧ z.toInt ≤ 255) n a H) (G0 : jT) (H0 : Heap) (r0 : Nat) (pt : Int32) (pe : Int32) : Met l yX14_four (jw yX14_four cX14_four 4 (some .int)) ({ frames := 3, cells := 0, slots := 0, locals := 62 }) (va_Pc [.ref r0] (fun U => U.heap = H0 ∧ jX B base G0 [] H0 ∧ jG dC dI ca base U ∧ G0 r0 = some (16, 0) ∧ jP (dC, dI) G0 H0 [(r0, 16, 29, .int pt), (r0, 16, 30, .int pe)] ∧ 0 ≤ pt.toInt ∧ pt.toInt ≤ 90000 ∧ 0 ≤ pe.toInt ∧ pe.toInt ≤ 3000 ∧ pt.toInt ≤ pe.toInt)) (va_Qi (S := Int32) (fun r u => (-1 ≤ r.toInt ∧ r.toInt ≤ 65535 ∧ pt.toInt ≤ u.toInt ∧ u.toInt ≤ pe.toInt)) (fun u t => jRt (dC, dI) B base G0 EX14_four H0 [(r0, 16, 29, .int u)] t.heap) (jA base)) 0 0 (jA base) := by
  refine Met.ofW (cc := cX14_four) (maxL := 4) (ret := (some .int)) (by decide) rfl ?_
  intro p e s m args below meth c s₁ Bd hml hv
  obtain ⟨rfl, hH0, hX, hG, hg_r0, hP0, hp0, hp1, hp2, hp3, hp4⟩ := hv
  have hK := hG.1
  have hx := Bd.exec
  have hb := Bd.bytes
  have hr := Bd.returns
  have hts := atoms_spec (ws := (jw yX14_four cX14_four 4 (some .int))) Bd.pre
  have htw : ∀ w ∈ jWl, w.before _ s = true := fun w h => hts w (List.mem_cons_of_mem _ h)
  have hown : s.vm.findClass RX14 = some m.cls := findClass_of_methodNamed Bd.named
  have hlocks := Bd.notSynchronized
  obtain ⟨Q, hQ⟩ : ∃ Q, Q = MQ below (va_Qi (S := Int32) (fun r u => (-1 ≤ r.toInt ∧ r.toInt ≤ 65535 ∧ pt.toInt ≤ u.toInt ∧ u.toInt ≤ pe.toInt)) (fun u t => jRt (dC, dI) B base G0 EX14_four H0 [(r0, 16, 29, .int u)] t.heap) (jA base)) ([.ref r0] : List Value).toArray s 0 0 (jA base) := ⟨_, rfl⟩
  rw [← hQ]
  have hl := lv_entry ([.ref r0]) (n := 4) (Nat.le_of_ble_eq_true rfl)
  rw [lg_entry_eq]
  generalize (lg_sl ([.ref r0]) ++ List.replicate (4 - (lg_sl ([.ref r0])).length) Slot.unset).toArray = ls at hl ⊢
  have hl : lv_has ls 4 [(0, .ref r0)] := hl
  generalize hR : (headSpec (jw yX14_four cX14_four 4 (some .int)) ({ frames := 3, cells := 0, slots := 0, locals := 62 })).room = R
  subst hH0
  have hh : jSt (dC, dI) B base G0 G0 EX14_four s.heap 0 0 [(r0, 16, 29, .int pt), (r0, 16, 30, .int pe)] [] [] s.heap [] := jSt.start hX hP0 jMc.nil jIs.nil
  clear hX hP0
  have hkm1 : ((-1) : Int32).toInt = (-1) := by decide
  have hk0 : (0 : Int32).toInt = 0 := by decide
  have hk1 : (1 : Int32).toInt = 1 := by decide
  have hk4 : (4 : Int32).toInt = 4 := by decide
  have hk16 : (16 : Int32).toInt = 16 := by decide
  have hly_16_29 := htw (u_lay RX14 TX14 29) (jWc_wsX140 _ (u_in_lay (by decide)))
  have hly_16_31 := htw (u_lay RX14 TX14 31) (jWc_wsX140 _ (u_in_lay (by decide)))
  have hlk_288 := (htw (.fieldLink RX14 288 "ProofServerModel" "bad" "Z") (jWr_50 _ (List.mem_of_getElem? (i := 9) rfl)))
  have hlk_273 := (htw (.fieldLink RX14 273 "ProofServerModel" "at" "I") (jWr_50 _ (List.mem_of_getElem? (i := 5) rfl)))
  refine lv_iconst (v := 0) hx hb dX14_four_0 (by decide) ?_
  refine lv_istore_n (lv' := [(1, .int 0), (0, .ref r0)]) hx hb dX14_four_1 rfl hl (by decide) rfl (fun ls hl => ?_)
  refine lv_iconst (v := 0) hx hb dX14_four_2 (by decide) ?_
  refine lv_istore_n (lv' := [(2, .int 0), (1, .int 0), (0, .ref r0)]) hx hb dX14_four_3 rfl hl (by decide) rfl (fun ls hl => ?_)
  have L4 : ∀ (N : Nat) (v1_1 : Int32) (v2_1 : Int32) (wt_1 : Int32) (H_1 : Heap) (locs_1 : List Loc), jSt (dC, dI) B base G0 G0 EX14_four s.heap 0 0 [(r0, 16, 29, .int wt_1), (r0, 16, 30, .int pe)] [] [] H_1 locs_1 → (0 ≤ v2_1.toInt ∧ v2_1.toInt ≤ 4 ∧ wt_1.toInt = pt.toInt + v2_1.toInt ∧ wt_1.toInt ≤ pe.toInt ∧ 0 ≤ v1_1.toInt ∧ ((v2_1.toInt = 0 ∧ v1_1.toInt = 0) ∨ (v2_1.toInt = 1 ∧ v1_1.toInt ≤ 15) ∨ (v2_1.toInt = 2 ∧ v1_1.toInt ≤ 255) ∨ (v2_1.toInt = 3 ∧ v1_1.toInt ≤ 4095) ∨ (v2_1.toInt = 4 ∧ v1_1.toInt ≤ 65535))) → (4 - v2_1.toInt : Int) < N → ∀ ls : Array Slot, lv_has ls 4 [(0, .ref r0), (1, .int v1_1), (2, .int v2_1)] → W p l e R s m ([.ref r0] : List Value).toArray below meth c H_1 locs_1 0 0 Q (F0 m 4 ls []) := by
    intro N
    induction N with
    | zero => intro v1_1 v2_1 wt_1 H_1 locs_1 hh_1  hi_1 hm; exact absurd hm (by omega)
    | succ N L4 =>
      intro v1_1 v2_1 wt_1 H_1 locs_1 hh_1  hi_1 hm_1 ls hl
      obtain ⟨hi_1_0, hi_1_1, hi_1_2, hi_1_3, hi_1_4, hi_1_5⟩ := hi_1
      refine lv_iload_n hx hb dX14_four_4 rfl (lv_at hl 2 rfl) ?_
      refine lv_iconst (v := 4) hx hb dX14_four_5 (by decide) ?_
      refine lv_icmp_ge (tgt := 51) hx hb dX14_four_6 (by decide) (fun c_2 => ?_) (fun c_2 => ?_)
      · skip
        have c_2' : v2_1.toInt ≥ 4 := jb_ge (rfl) ((by decide)) c_2
        refine lv_iload_n hx hb dX14_four_51 rfl (lv_at hl 1 rfl) ?_
        rw [hQ]
        exact W.iret (v := v1_1) hx hb hr (fun t ht hW => ⟨⟨v1_1, wt_1, rfl, by first | omega | (refine ⟨?_, ?_, ?_, ?_⟩ <;> (first | omega | rfl | assumption | decide | exact Or.inl rfl | exact Or.inr rfl | (simp only; omega))), hh_1.rt (M1 := [(r0, 16, 29, .int wt_1)]) [0] rfl ht⟩, by rw [ht]; try exact hh_1.1.1, fun q h9 hq => by rw [ht]; try exact hh_1.1.2.1 q h9 hq⟩) hh_1.1.2.2 dX14_four_52
      · skip
        have c_2' : v2_1.toInt < 4 := jb_ge_n (rfl) ((by decide)) c_2
        refine lv_aload_n hx hb dX14_four_9 rfl (lv_at hl 0 rfl) ?_
        refine va_calli (A0 := jA base) (H0 := s.heap) (va_runV (As := []) (rest := []) ⟨hx, hb, hml, hown, hts⟩ (uX14_here l dC dI ca base B hB hAp hB16 hB110 G0 H_1 r0 wt_1 pe) (cwV 0 hts (jgV (jWr_50 _ (List.mem_of_getElem? (i := 20) rfl)) (jWr_50 _ (List.mem_of_getElem? (i := 21) rfl)) (jWr_50 _ (List.mem_of_getElem? (i := 22) rfl)) (jWr_1 _ (List.mem_of_getElem? (i := 5) rfl)) (jWr_50 _ (List.mem_of_getElem? (i := 23) rfl))) rfl rfl rfl (by decide +kernel) ⟨by rw [← hR]; exact Nat.le_of_ble_eq_true rfl, by rw [← hR]; exact Nat.le_of_ble_eq_true rfl⟩) ⟨fun a U g mk q => by obtain ⟨q0, q1, q2, qK, q10, q11, q12⟩ := q; exact ⟨q0, q1, q2, jG.calling g mk a qK, q10, q11, q12⟩, hh_1.recv (C := RX14) (T := TX14) (N := 74) hB16 rfl (by decide) hg_r0 hK, fun U hU hW => ⟨rfl, hU, hh_1.2.1, hG.step hW hU hh_1.1, hg_r0, (hh_1.2.2.1.sub (L1 := [(r0, 16, 29, .int wt_1), (r0, 16, 30, .int pe)]) [0, 1] rfl), by first | omega | (refine ⟨?_, ?_, ?_, ?_⟩ <;> (first | omega | rfl | assumption | decide | exact Or.inl rfl | exact Or.inr rfl | (simp only; omega)))⟩⟩ rfl rfl hl.1 rfl (lv_room (Nat.le_of_ble_eq_true rfl)) dX14_four_10 ⟨Nat.zero_le _, Nat.zero_le _⟩) hh_1.1 (fun q _ h => h) (fun q h => h) (fun r_4 u_3 t_3 H_3 locs_3 ht_3 hvm_3 hr_4 hb_3 hz_3 hk_3 hS_3 => ?_)
        rw [ht_3] at hb_3
        obtain ⟨hb_31, hb_32, hb_33, hb_34, hb_35⟩ := hb_3
        have hh_3 : jSt (dC, dI) B base G0 G0 EX14_four s.heap 0 0 [(r0, 16, 29, .int wt_1), (r0, 16, 30, .int pe)] [] [] H_3 locs_3 := ((hh_1.call hb_31 hb_32 hb_33 hb_34 hS_3 rfl (L1 := [(r0, 16, 29, .int wt_1), (r0, 16, 30, .int pe)]) [0, 1] rfl rfl (M1 := []) [] rfl rfl (I1 := []) [] rfl rfl).more hb_35)
        clear hh_1 ht_3 hvm_3 hz_3 hk_3 hS_3 hb_31 hb_32 hb_33 hb_34 hb_35
        obtain ⟨hr_4_0, hr_4_1, hr_4_2⟩ := hr_4
        refine va_calli (A0 := jA base) (H0 := s.heap) (va_runS (As := [.int r_4]) (rest := []) ⟨hx, hb, hml, hown, hts⟩ (uX14_hexOf l dC dI ca base B hB hAp G0 H_3 r_4) (va_cwS 1 hts (jgS (jWr_52 _ (List.mem_of_getElem? (i := 7) rfl)) (jWr_52 _ (List.mem_of_getElem? (i := 8) rfl)) (jWr_1 _ (List.mem_of_getElem? (i := 5) rfl)) (jWr_52 _ (List.mem_of_getElem? (i := 9) rfl))) rfl rfl rfl (by decide +kernel) ⟨by rw [← hR]; exact Nat.le_of_ble_eq_true rfl, by rw [← hR]; exact Nat.le_of_ble_eq_true rfl⟩) ⟨fun a U g mk q => by obtain ⟨q0, q1, q2, qK, q10, q11⟩ := q; exact ⟨q0, q1, q2, jG.calling g mk a qK, q10, q11⟩, fun U hU hW => ⟨rfl, hU, hh_3.2.1, hG.step hW hU hh_3.1, jP.nil, trivial⟩⟩ rfl rfl hl.1 rfl (lv_room (Nat.le_of_ble_eq_true rfl)) dX14_four_13 ⟨Nat.zero_le _, Nat.zero_le _⟩) hh_3.1 (fun q _ h => h) (fun q h => h) (fun r_6 u_5 t_5 H_5 locs_5 ht_5 hvm_5 hr_6 hb_5 hz_5 hk_5 hS_5 => ?_)
        rw [ht_5] at hb_5
        obtain ⟨hb_51, hb_52, hb_53, hb_54, hb_55⟩ := hb_5
        have hh_5 : jSt (dC, dI) B base G0 G0 EX14_four s.heap 0 0 [(r0, 16, 29, .int wt_1), (r0, 16, 30, .int pe)] [] [] H_5 locs_5 := ((hh_3.call hb_51 hb_52 hb_53 hb_54 hS_5 rfl (L1 := [(r0, 16, 29, .int wt_1), (r0, 16, 30, .int pe)]) [0, 1] rfl rfl (M1 := []) [] rfl rfl (I1 := []) [] rfl rfl).more hb_55)
        clear hh_3 ht_5 hvm_5 hz_5 hk_5 hS_5 hb_51 hb_52 hb_53 hb_54 hb_55
        obtain ⟨hr_6_0, hr_6_1, hr_6_2⟩ := hr_6
        refine lv_istore_n (lv' := [(3, .int r_6), (0, .ref r0), (1, .int v1_1), (2, .int v2_1)]) hx hb dX14_four_16 rfl hl (by decide) rfl (fun ls hl => ?_)
        refine lv_iload_n hx hb dX14_four_17 rfl (lv_at hl 0 rfl) ?_
        refine lv_if_ge (tgt := 28) hx hb dX14_four_18 (by decide) (fun c_7 => ?_) (fun c_7 => ?_)
        · skip
          have c_7' : r_6.toInt ≥ 0 := jb_ge (rfl) ((by decide)) c_7
          first | (have hr_4_2q := hr_4_2.resolve_left (by omega); clear hr_4_2) | (have hr_4_2q := hr_4_2.resolve_right (by omega); clear hr_4_2) | try clear hr_4_2
          first | (have hr_6_2q := hr_6_2.resolve_left (by omega); clear hr_6_2) | (have hr_6_2q := hr_6_2.resolve_right (by omega); clear hr_6_2) | skip
          refine lv_bipush (v := 16) hx hb dX14_four_28 (by decide) ?_
          refine lv_iload_n hx hb dX14_four_30 rfl (lv_at hl 2 rfl) ?_
          refine lv_imul hx hb dX14_four_31 ?_
          refine lv_topi (fun z_8 ez_8 => ?_)
          have hz_8 : z_8.toInt = 16 * v1_1.toInt := by rw [ez_8]; exact jb_imul2 ((by decide)) (rfl) (by omega)
          refine lv_iload_n hx hb dX14_four_32 rfl (lv_at hl 0 rfl) ?_
          refine lv_iadd hx hb dX14_four_33 ?_
          refine lv_topi (fun z_9 ez_9 => ?_)
          have hz_9 : z_9.toInt = z_8.toInt + r_6.toInt := by rw [ez_9]; exact jb_iadd2 (rfl) (rfl) (by omega)
          refine lv_istore_n (lv' := [(1, .int z_9), (3, .int r_6), (0, .ref r0), (2, .int v2_1)]) hx hb dX14_four_34 rfl hl (by decide) rfl (fun ls hl => ?_)
          refine lv_aload_n hx hb dX14_four_35 rfl (lv_at hl 2 rfl) ?_
          refine lv_dup hx hb dX14_four_36 rfl ?_
          refine j7_read hx hb hown hK (C := RX14) (T := TX14) (N := 74) rfl hly_16_29 hlk_273 (hh_5.at 0 rfl) dX14_four_37 ?_
          refine lv_iconst (v := 1) hx hb dX14_four_40 (by decide) ?_
          refine lv_iadd hx hb dX14_four_41 ?_
          refine lv_topi (fun z_10 ez_10 => ?_)
          have hz_10 : z_10.toInt = wt_1.toInt + 1 := by rw [ez_10]; exact jb_iadd2 (rfl) ((by decide)) (by omega)
          refine j7_put hx hb hown hK hh_5 hB hAp hB16 (C := RX14) (T := TX14) (N := 74) rfl (by decide) hg_r0 (i := 29) (by decide) hly_16_29 rfl hlk_273 rfl (ty := .int) (v := .int z_10) (by decide +kernel) rfl rfl (⟨_, rfl, by omega, by omega⟩) rfl (L1 := [(r0, 16, 30, .int pe)]) [1] rfl rfl rfl dX14_four_42 (fun H_11 locs_11 hh_11 => ?_)
          clear hh_5
          obtain ⟨z_12, ez_12⟩ : ∃ y : Int32, y = v2_1 + 1 := ⟨_, rfl⟩
          refine lv_iinc (v := z_12) (lv' := [(2, .int z_12), (1, .int z_9), (3, .int r_6), (0, .ref r0)]) hx hb dX14_four_45 hl (k := 3) rfl (by rw [ez_12]; rfl) (by decide) rfl (fun ls hl => ?_)
          have hz_12 : z_12.toInt = v2_1.toInt + 1 := by rw [ez_12]; exact jb_iadd2 (rfl) (by decide) (by omega)
          refine lv_goto (tgt := 4) hx hb dX14_four_48 (by decide) ?_
          exact L4 z_9 z_12 z_10 _ _ hh_11 (by first | omega | (refine ⟨?_, ?_, ?_, ?_, ?_, ?_⟩ <;> (first | omega | rfl | assumption | decide | exact Or.inl rfl | exact Or.inr rfl | (simp only; omega)))) (by omega) _ (lv_sub hl [3, 1, 0] rfl)
        · skip
          have c_7' : r_6.toInt < 0 := jb_ge_n (rfl) ((by decide)) c_7
          first | (have hr_4_2q := hr_4_2.resolve_left (by omega); clear hr_4_2) | (have hr_4_2q := hr_4_2.resolve_right (by omega); clear hr_4_2) | try clear hr_4_2
          first | (have hr_6_2q := hr_6_2.resolve_left (by omega); clear hr_6_2) | (have hr_6_2q := hr_6_2.resolve_right (by omega); clear hr_6_2) | skip
          refine lv_aload_n hx hb dX14_four_21 rfl (lv_at hl 1 rfl) ?_
          refine lv_iconst (v := 1) hx hb dX14_four_22 (by decide) ?_
          refine j7_put hx hb hown hK hh_5 hB hAp hB16 (C := RX14) (T := TX14) (N := 74) rfl (by decide) hg_r0 (i := 31) (by decide) hly_16_31 rfl hlk_288 rfl (ty := .boolean) (v := .int 1) (by decide +kernel) (jb_nz (Or.inr rfl)) (jb_fz (Or.inr rfl)) (⟨_, rfl, (Or.inr rfl)⟩) rfl (L1 := [(r0, 16, 29, .int wt_1), (r0, 16, 30, .int pe)]) [0, 1] rfl rfl rfl dX14_four_23 (fun H_13 locs_13 hh_13 => ?_)
          clear hh_5
          refine lv_iconst (v := (-1)) hx hb dX14_four_26 (by decide) ?_
          rw [hQ]
          exact W.iret (v := (-1)) hx hb hr (fun t ht hW => ⟨⟨(-1), wt_1, rfl, by first | omega | (refine ⟨?_, ?_, ?_, ?_⟩ <;> (first | omega | rfl | assumption | decide | exact Or.inl rfl | exact Or.inr rfl | (simp only; omega))), hh_13.rt (M1 := [(r0, 16, 29, .int wt_1)]) [1] rfl ht⟩, by rw [ht]; try exact hh_13.1.1, fun q h9 hq => by rw [ht]; try exact hh_13.1.2.1 q h9 hq⟩) hh_13.1.2.2 dX14_four_27
  exact L4 (4 - (0 : Int32).toInt : Int).toNat.succ 0 0 pt _ _ hh (by first | omega | (refine ⟨?_, ?_, ?_, ?_, ?_, ?_⟩ <;> (first | omega | rfl | assumption | decide | exact Or.inl rfl | exact Or.inr rfl | (simp only; omega)))) (by omega) _ (lv_sub hl [2, 1, 0] rfl)
end
