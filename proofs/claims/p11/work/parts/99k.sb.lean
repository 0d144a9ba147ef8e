theorem dJ5_ensureCapacityInternal_d00df_0 : decode cJ5_ensureCapacityInternal_d00df 0 = .ok (.aload_n 0, 1) := by decide +kernel
theorem dJ5_ensureCapacityInternal_d00df_1 : decode cJ5_ensureCapacityInternal_d00df 1 = .ok (.getfield 15, 3) := by decide +kernel
theorem dJ5_ensureCapacityInternal_d00df_4 : decode cJ5_ensureCapacityInternal_d00df 4 = .ok (.arraylength, 1) := by decide +kernel
theorem dJ5_ensureCapacityInternal_d00df_5 : decode cJ5_ensureCapacityInternal_d00df 5 = .ok (.aload_n 0, 1) := by decide +kernel
theorem dJ5_ensureCapacityInternal_d00df_6 : decode cJ5_ensureCapacityInternal_d00df 6 = .ok (.getfield 22, 3) := by decide +kernel
theorem dJ5_ensureCapacityInternal_d00df_9 : decode cJ5_ensureCapacityInternal_d00df 9 = .ok (.ishr, 1) := by decide +kernel
theorem dJ5_ensureCapacityInternal_d00df_10 : decode cJ5_ensureCapacityInternal_d00df 10 = .ok (.istore_n 2, 1) := by decide +kernel
theorem dJ5_ensureCapacityInternal_d00df_11 : decode cJ5_ensureCapacityInternal_d00df 11 = .ok (.iload_n 1, 1) := by decide +kernel
theorem dJ5_ensureCapacityInternal_d00df_12 : decode cJ5_ensureCapacityInternal_d00df 12 = .ok (.iload_n 2, 1) := by decide +kernel
theorem dJ5_ensureCapacityInternal_d00df_13 : decode cJ5_ensureCapacityInternal_d00df 13 = .ok (.isub, 1) := by decide +kernel
theorem dJ5_ensureCapacityInternal_d00df_14 : decode cJ5_ensureCapacityInternal_d00df 14 = .ok (.ifCond .le 24, 3) := by decide +kernel
theorem dJ5_ensureCapacityInternal_d00df_17 : decode cJ5_ensureCapacityInternal_d00df 17 = .ok (.aload_n 0, 1) := by decide +kernel
theorem dJ5_ensureCapacityInternal_d00df_18 : decode cJ5_ensureCapacityInternal_d00df 18 = .ok (.aload_n 0, 1) := by decide +kernel
theorem dJ5_ensureCapacityInternal_d00df_19 : decode cJ5_ensureCapacityInternal_d00df 19 = .ok (.getfield 15, 3) := by decide +kernel
theorem dJ5_ensureCapacityInternal_d00df_22 : decode cJ5_ensureCapacityInternal_d00df 22 = .ok (.aload_n 0, 1) := by decide +kernel
theorem dJ5_ensureCapacityInternal_d00df_23 : decode cJ5_ensureCapacityInternal_d00df 23 = .ok (.iload_n 1, 1) := by decide +kernel
theorem dJ5_ensureCapacityInternal_d00df_24 : decode cJ5_ensureCapacityInternal_d00df 24 = .ok (.invokevirtual 104, 3) := by decide +kernel
theorem dJ5_ensureCapacityInternal_d00df_27 : decode cJ5_ensureCapacityInternal_d00df 27 = .ok (.aload_n 0, 1) := by decide +kernel
theorem dJ5_ensureCapacityInternal_d00df_28 : decode cJ5_ensureCapacityInternal_d00df 28 = .ok (.getfield 22, 3) := by decide +kernel
theorem dJ5_ensureCapacityInternal_d00df_31 : decode cJ5_ensureCapacityInternal_d00df 31 = .ok (.ishl, 1) := by decide +kernel
theorem dJ5_ensureCapacityInternal_d00df_32 : decode cJ5_ensureCapacityInternal_d00df 32 = .ok (.invokestatic 108, 3) := by decide +kernel
theorem dJ5_ensureCapacityInternal_d00df_35 : decode cJ5_ensureCapacityInternal_d00df 35 = .ok (.putfield 15, 3) := by decide +kernel
theorem dJ5_ensureCapacityInternal_d00df_38 : decode cJ5_ensureCapacityInternal_d00df 38 = .ok (.return_, 1) := by decide +kernel
theorem dJ5_newCapacity_0f7a4_0 : decode cJ5_newCapacity_0f7a4 0 = .ok (.aload_n 0, 1) := by decide +kernel
theorem dJ5_newCapacity_0f7a4_1 : decode cJ5_newCapacity_0f7a4 1 = .ok (.getfield 15, 3) := by decide +kernel
theorem dJ5_newCapacity_0f7a4_4 : decode cJ5_newCapacity_0f7a4 4 = .ok (.arraylength, 1) := by decide +kernel
theorem dJ5_newCapacity_0f7a4_5 : decode cJ5_newCapacity_0f7a4 5 = .ok (.istore_n 2, 1) := by decide +kernel
theorem dJ5_newCapacity_0f7a4_6 : decode cJ5_newCapacity_0f7a4 6 = .ok (.iload_n 1, 1) := by decide +kernel
theorem dJ5_newCapacity_0f7a4_7 : decode cJ5_newCapacity_0f7a4 7 = .ok (.aload_n 0, 1) := by decide +kernel
theorem dJ5_newCapacity_0f7a4_8 : decode cJ5_newCapacity_0f7a4 8 = .ok (.getfield 22, 3) := by decide +kernel
theorem dJ5_newCapacity_0f7a4_11 : decode cJ5_newCapacity_0f7a4 11 = .ok (.ishl, 1) := by decide +kernel
theorem dJ5_newCapacity_0f7a4_12 : decode cJ5_newCapacity_0f7a4 12 = .ok (.istore_n 3, 1) := by decide +kernel
theorem dJ5_newCapacity_0f7a4_13 : decode cJ5_newCapacity_0f7a4 13 = .ok (.iload_n 3, 1) := by decide +kernel
theorem dJ5_newCapacity_0f7a4_14 : decode cJ5_newCapacity_0f7a4 14 = .ok (.iload_n 2, 1) := by decide +kernel
theorem dJ5_newCapacity_0f7a4_15 : decode cJ5_newCapacity_0f7a4 15 = .ok (.isub, 1) := by decide +kernel
theorem dJ5_newCapacity_0f7a4_16 : decode cJ5_newCapacity_0f7a4 16 = .ok (.istore 4, 2) := by decide +kernel
theorem dJ5_newCapacity_0f7a4_18 : decode cJ5_newCapacity_0f7a4 18 = .ok (.iload_n 2, 1) := by decide +kernel
theorem dJ5_newCapacity_0f7a4_19 : decode cJ5_newCapacity_0f7a4 19 = .ok (.iload 4, 2) := by decide +kernel
theorem dJ5_newCapacity_0f7a4_21 : decode cJ5_newCapacity_0f7a4 21 = .ok (.iload_n 2, 1) := by decide +kernel
theorem dJ5_newCapacity_0f7a4_22 : decode cJ5_newCapacity_0f7a4 22 = .ok (.iconst 2, 1) := by decide +kernel
theorem dJ5_newCapacity_0f7a4_23 : decode cJ5_newCapacity_0f7a4 23 = .ok (.aload_n 0, 1) := by decide +kernel
theorem dJ5_newCapacity_0f7a4_24 : decode cJ5_newCapacity_0f7a4 24 = .ok (.getfield 22, 3) := by decide +kernel
theorem dJ5_newCapacity_0f7a4_27 : decode cJ5_newCapacity_0f7a4 27 = .ok (.ishl, 1) := by decide +kernel
theorem dJ5_newCapacity_0f7a4_28 : decode cJ5_newCapacity_0f7a4 28 = .ok (.iadd, 1) := by decide +kernel
theorem dJ5_newCapacity_0f7a4_29 : decode cJ5_newCapacity_0f7a4 29 = .ok (.invokestatic 114, 3) := by decide +kernel
theorem dJ5_newCapacity_0f7a4_32 : decode cJ5_newCapacity_0f7a4 32 = .ok (.istore 5, 2) := by decide +kernel
theorem dJ5_newCapacity_0f7a4_34 : decode cJ5_newCapacity_0f7a4 34 = .ok (.iload 5, 2) := by decide +kernel
theorem dJ5_newCapacity_0f7a4_36 : decode cJ5_newCapacity_0f7a4 36 = .ok (.ldc 39, 2) := by decide +kernel
theorem dJ5_newCapacity_0f7a4_38 : decode cJ5_newCapacity_0f7a4 38 = .ok (.if_icmp .ne 13, 3) := by decide +kernel
theorem dJ5_newCapacity_0f7a4_41 : decode cJ5_newCapacity_0f7a4 41 = .ok (.new 120, 3) := by decide +kernel
theorem dJ5_newCapacity_0f7a4_44 : decode cJ5_newCapacity_0f7a4 44 = .ok (.dup, 1) := by decide +kernel
theorem dJ5_newCapacity_0f7a4_45 : decode cJ5_newCapacity_0f7a4 45 = .ok (.ldc 122, 2) := by decide +kernel
theorem dJ5_newCapacity_0f7a4_47 : decode cJ5_newCapacity_0f7a4 47 = .ok (.invokespecial 124, 3) := by decide +kernel
theorem dJ5_newCapacity_0f7a4_50 : decode cJ5_newCapacity_0f7a4 50 = .ok (.athrow, 1) := by decide +kernel
theorem dJ5_newCapacity_0f7a4_51 : decode cJ5_newCapacity_0f7a4 51 = .ok (.iload 5, 2) := by decide +kernel
theorem dJ5_newCapacity_0f7a4_53 : decode cJ5_newCapacity_0f7a4 53 = .ok (.aload_n 0, 1) := by decide +kernel
theorem dJ5_newCapacity_0f7a4_54 : decode cJ5_newCapacity_0f7a4 54 = .ok (.getfield 22, 3) := by decide +kernel
theorem dJ5_newCapacity_0f7a4_57 : decode cJ5_newCapacity_0f7a4 57 = .ok (.ishr, 1) := by decide +kernel
theorem dJ5_newCapacity_0f7a4_58 : decode cJ5_newCapacity_0f7a4 58 = .ok (.ireturn, 1) := by decide +kernel
theorem dJ5_setLength_d00df_0 : decode cJ5_setLength_d00df 0 = .ok (.iload_n 1, 1) := by decide +kernel
theorem dJ5_setLength_d00df_1 : decode cJ5_setLength_d00df 1 = .ok (.ifCond .ge 12, 3) := by decide +kernel
theorem dJ5_setLength_d00df_4 : decode cJ5_setLength_d00df 4 = .ok (.new 129, 3) := by decide +kernel
theorem dJ5_setLength_d00df_7 : decode cJ5_setLength_d00df 7 = .ok (.dup, 1) := by decide +kernel
theorem dJ5_setLength_d00df_8 : decode cJ5_setLength_d00df 8 = .ok (.iload_n 1, 1) := by decide +kernel
theorem dJ5_setLength_d00df_9 : decode cJ5_setLength_d00df 9 = .ok (.invokespecial 131, 3) := by decide +kernel
theorem dJ5_setLength_d00df_12 : decode cJ5_setLength_d00df 12 = .ok (.athrow, 1) := by decide +kernel
theorem dJ5_setLength_d00df_13 : decode cJ5_setLength_d00df 13 = .ok (.aload_n 0, 1) := by decide +kernel
theorem dJ5_setLength_d00df_14 : decode cJ5_setLength_d00df 14 = .ok (.iload_n 1, 1) := by decide +kernel
theorem dJ5_setLength_d00df_15 : decode cJ5_setLength_d00df 15 = .ok (.invokevirtual 100, 3) := by decide +kernel
theorem dJ5_setLength_d00df_18 : decode cJ5_setLength_d00df 18 = .ok (.aload_n 0, 1) := by decide +kernel
theorem dJ5_setLength_d00df_19 : decode cJ5_setLength_d00df 19 = .ok (.getfield 79, 3) := by decide +kernel
theorem dJ5_setLength_d00df_22 : decode cJ5_setLength_d00df 22 = .ok (.iload_n 1, 1) := by decide +kernel
theorem dJ5_setLength_d00df_23 : decode cJ5_setLength_d00df 23 = .ok (.if_icmp .ge 40, 3) := by decide +kernel
theorem dJ5_setLength_d00df_26 : decode cJ5_setLength_d00df 26 = .ok (.aload_n 0, 1) := by decide +kernel
theorem dJ5_setLength_d00df_27 : decode cJ5_setLength_d00df 27 = .ok (.invokevirtual 83, 3) := by decide +kernel
theorem dJ5_setLength_d00df_30 : decode cJ5_setLength_d00df 30 = .ok (.ifCond .eq 18, 3) := by decide +kernel
theorem dJ5_setLength_d00df_33 : decode cJ5_setLength_d00df 33 = .ok (.aload_n 0, 1) := by decide +kernel
theorem dJ5_setLength_d00df_34 : decode cJ5_setLength_d00df 34 = .ok (.getfield 15, 3) := by decide +kernel
theorem dJ5_setLength_d00df_37 : decode cJ5_setLength_d00df 37 = .ok (.aload_n 0, 1) := by decide +kernel
theorem dJ5_setLength_d00df_38 : decode cJ5_setLength_d00df 38 = .ok (.getfield 79, 3) := by decide +kernel
theorem dJ5_setLength_d00df_41 : decode cJ5_setLength_d00df 41 = .ok (.iload_n 1, 1) := by decide +kernel
theorem dJ5_setLength_d00df_42 : decode cJ5_setLength_d00df 42 = .ok (.invokestatic 133, 3) := by decide +kernel
theorem dJ5_setLength_d00df_45 : decode cJ5_setLength_d00df 45 = .ok (.goto 31, 3) := by decide +kernel
theorem dJ5_setLength_d00df_48 : decode cJ5_setLength_d00df 48 = .ok (.aload_n 0, 1) := by decide +kernel
theorem dJ5_setLength_d00df_49 : decode cJ5_setLength_d00df 49 = .ok (.getfield 15, 3) := by decide +kernel
theorem dJ5_setLength_d00df_52 : decode cJ5_setLength_d00df 52 = .ok (.aload_n 0, 1) := by decide +kernel
theorem dJ5_setLength_d00df_53 : decode cJ5_setLength_d00df 53 = .ok (.getfield 79, 3) := by decide +kernel
theorem dJ5_setLength_d00df_56 : decode cJ5_setLength_d00df 56 = .ok (.iload_n 1, 1) := by decide +kernel
theorem dJ5_setLength_d00df_57 : decode cJ5_setLength_d00df 57 = .ok (.invokestatic 137, 3) := by decide +kernel
theorem dJ5_setLength_d00df_60 : decode cJ5_setLength_d00df 60 = .ok (.goto 16, 3) := by decide +kernel
theorem dJ5_setLength_d00df_63 : decode cJ5_setLength_d00df 63 = .ok (.aload_n 0, 1) := by decide +kernel
theorem dJ5_setLength_d00df_64 : decode cJ5_setLength_d00df 64 = .ok (.getfield 79, 3) := by decide +kernel
theorem dJ5_setLength_d00df_67 : decode cJ5_setLength_d00df 67 = .ok (.iload_n 1, 1) := by decide +kernel
theorem dJ5_setLength_d00df_68 : decode cJ5_setLength_d00df 68 = .ok (.if_icmp .le 8, 3) := by decide +kernel
theorem dJ5_setLength_d00df_71 : decode cJ5_setLength_d00df 71 = .ok (.aload_n 0, 1) := by decide +kernel
theorem dJ5_setLength_d00df_72 : decode cJ5_setLength_d00df 72 = .ok (.iconst 1, 1) := by decide +kernel
theorem dJ5_setLength_d00df_73 : decode cJ5_setLength_d00df 73 = .ok (.putfield 73, 3) := by decide +kernel
theorem dJ5_setLength_d00df_76 : decode cJ5_setLength_d00df 76 = .ok (.aload_n 0, 1) := by decide +kernel
theorem dJ5_setLength_d00df_77 : decode cJ5_setLength_d00df 77 = .ok (.iload_n 1, 1) := by decide +kernel
theorem dJ5_setLength_d00df_78 : decode cJ5_setLength_d00df 78 = .ok (.putfield 79, 3) := by decide +kernel
theorem dJ5_setLength_d00df_81 : decode cJ5_setLength_d00df 81 = .ok (.return_, 1) := by decide +kernel
theorem dJ5_append_3fe6f_0 : decode cJ5_append_3fe6f 0 = .ok (.aload_n 0, 1) := by decide +kernel
theorem dJ5_append_3fe6f_1 : decode cJ5_append_3fe6f 1 = .ok (.aload_n 0, 1) := by decide +kernel
theorem dJ5_append_3fe6f_2 : decode cJ5_append_3fe6f 2 = .ok (.getfield 79, 3) := by decide +kernel
theorem dJ5_append_3fe6f_5 : decode cJ5_append_3fe6f 5 = .ok (.iconst 1, 1) := by decide +kernel
theorem dJ5_append_3fe6f_6 : decode cJ5_append_3fe6f 6 = .ok (.iadd, 1) := by decide +kernel
theorem dJ5_append_3fe6f_7 : decode cJ5_append_3fe6f 7 = .ok (.invokevirtual 100, 3) := by decide +kernel
theorem dJ5_append_3fe6f_10 : decode cJ5_append_3fe6f 10 = .ok (.aload_n 0, 1) := by decide +kernel
theorem dJ5_append_3fe6f_11 : decode cJ5_append_3fe6f 11 = .ok (.invokevirtual 83, 3) := by decide +kernel
theorem dJ5_append_3fe6f_14 : decode cJ5_append_3fe6f 14 = .ok (.ifCond .eq 31, 3) := by decide +kernel
theorem dJ5_append_3fe6f_17 : decode cJ5_append_3fe6f 17 = .ok (.iload_n 1, 1) := by decide +kernel
theorem dJ5_append_3fe6f_18 : decode cJ5_append_3fe6f 18 = .ok (.invokestatic 191, 3) := by decide +kernel
theorem dJ5_append_3fe6f_21 : decode cJ5_append_3fe6f 21 = .ok (.ifCond .eq 24, 3) := by decide +kernel
theorem dJ5_append_3fe6f_24 : decode cJ5_append_3fe6f 24 = .ok (.aload_n 0, 1) := by decide +kernel
theorem dJ5_append_3fe6f_25 : decode cJ5_append_3fe6f 25 = .ok (.getfield 15, 3) := by decide +kernel
theorem dJ5_append_3fe6f_28 : decode cJ5_append_3fe6f 28 = .ok (.aload_n 0, 1) := by decide +kernel
theorem dJ5_append_3fe6f_29 : decode cJ5_append_3fe6f 29 = .ok (.dup, 1) := by decide +kernel
theorem dJ5_append_3fe6f_30 : decode cJ5_append_3fe6f 30 = .ok (.getfield 79, 3) := by decide +kernel
theorem dJ5_append_3fe6f_33 : decode cJ5_append_3fe6f 33 = .ok (.dup_x1, 1) := by decide +kernel
theorem dJ5_append_3fe6f_34 : decode cJ5_append_3fe6f 34 = .ok (.iconst 1, 1) := by decide +kernel
theorem dJ5_append_3fe6f_35 : decode cJ5_append_3fe6f 35 = .ok (.iadd, 1) := by decide +kernel
theorem dJ5_append_3fe6f_36 : decode cJ5_append_3fe6f 36 = .ok (.putfield 79, 3) := by decide +kernel
theorem dJ5_append_3fe6f_39 : decode cJ5_append_3fe6f 39 = .ok (.iload_n 1, 1) := by decide +kernel
theorem dJ5_append_3fe6f_40 : decode cJ5_append_3fe6f 40 = .ok (.i2b, 1) := by decide +kernel
theorem dJ5_append_3fe6f_41 : decode cJ5_append_3fe6f 41 = .ok (.bastore, 1) := by decide +kernel
theorem dJ5_append_3fe6f_42 : decode cJ5_append_3fe6f 42 = .ok (.goto 33, 3) := by decide +kernel
theorem dJ5_append_3fe6f_45 : decode cJ5_append_3fe6f 45 = .ok (.aload_n 0, 1) := by decide +kernel
theorem dJ5_append_3fe6f_46 : decode cJ5_append_3fe6f 46 = .ok (.invokevirtual 83, 3) := by decide +kernel
theorem dJ5_append_3fe6f_49 : decode cJ5_append_3fe6f 49 = .ok (.ifCond .eq 7, 3) := by decide +kernel
theorem dJ5_append_3fe6f_52 : decode cJ5_append_3fe6f 52 = .ok (.aload_n 0, 1) := by decide +kernel
theorem dJ5_append_3fe6f_53 : decode cJ5_append_3fe6f 53 = .ok (.invokevirtual 195, 3) := by decide +kernel
theorem dJ5_append_3fe6f_56 : decode cJ5_append_3fe6f 56 = .ok (.aload_n 0, 1) := by decide +kernel
theorem dJ5_append_3fe6f_57 : decode cJ5_append_3fe6f 57 = .ok (.getfield 15, 3) := by decide +kernel
theorem dJ5_append_3fe6f_60 : decode cJ5_append_3fe6f 60 = .ok (.aload_n 0, 1) := by decide +kernel
theorem dJ5_append_3fe6f_61 : decode cJ5_append_3fe6f 61 = .ok (.dup, 1) := by decide +kernel
theorem dJ5_append_3fe6f_62 : decode cJ5_append_3fe6f 62 = .ok (.getfield 79, 3) := by decide +kernel
theorem dJ5_append_3fe6f_65 : decode cJ5_append_3fe6f 65 = .ok (.dup_x1, 1) := by decide +kernel
theorem dJ5_append_3fe6f_66 : decode cJ5_append_3fe6f 66 = .ok (.iconst 1, 1) := by decide +kernel
theorem dJ5_append_3fe6f_67 : decode cJ5_append_3fe6f 67 = .ok (.iadd, 1) := by decide +kernel
theorem dJ5_append_3fe6f_68 : decode cJ5_append_3fe6f 68 = .ok (.putfield 79, 3) := by decide +kernel
theorem dJ5_append_3fe6f_71 : decode cJ5_append_3fe6f 71 = .ok (.iload_n 1, 1) := by decide +kernel
theorem dJ5_append_3fe6f_72 : decode cJ5_append_3fe6f 72 = .ok (.invokestatic 197, 3) := by decide +kernel
theorem dJ5_append_3fe6f_75 : decode cJ5_append_3fe6f 75 = .ok (.aload_n 0, 1) := by decide +kernel
theorem dJ5_append_3fe6f_76 : decode cJ5_append_3fe6f 76 = .ok (.areturn, 1) := by decide +kernel
theorem dJ5_isLatin1_aae02_0 : decode cJ5_isLatin1_aae02 0 = .ok (.getstatic 18, 3) := by decide +kernel
theorem dJ5_isLatin1_aae02_3 : decode cJ5_isLatin1_aae02 3 = .ok (.ifCond .eq 14, 3) := by decide +kernel
theorem dJ5_isLatin1_aae02_6 : decode cJ5_isLatin1_aae02 6 = .ok (.aload_n 0, 1) := by decide +kernel
theorem dJ5_isLatin1_aae02_7 : decode cJ5_isLatin1_aae02 7 = .ok (.getfield 22, 3) := by decide +kernel
theorem dJ5_isLatin1_aae02_10 : decode cJ5_isLatin1_aae02 10 = .ok (.ifCond .ne 7, 3) := by decide +kernel
theorem dJ5_isLatin1_aae02_13 : decode cJ5_isLatin1_aae02 13 = .ok (.iconst 1, 1) := by decide +kernel
theorem dJ5_isLatin1_aae02_14 : decode cJ5_isLatin1_aae02 14 = .ok (.goto 4, 3) := by decide +kernel
theorem dJ5_isLatin1_aae02_17 : decode cJ5_isLatin1_aae02 17 = .ok (.iconst 0, 1) := by decide +kernel
theorem dJ5_isLatin1_aae02_18 : decode cJ5_isLatin1_aae02 18 = .ok (.ireturn, 1) := by decide +kernel
theorem dJ4_append_cf468_0 : decode cJ4_append_cf468 0 = .ok (.aload_n 0, 1) := by decide +kernel
theorem dJ4_append_cf468_1 : decode cJ4_append_cf468 1 = .ok (.iload_n 1, 1) := by decide +kernel
theorem dJ4_append_cf468_2 : decode cJ4_append_cf468 2 = .ok (.invokespecial 50, 3) := by decide +kernel
theorem dJ4_append_cf468_5 : decode cJ4_append_cf468 5 = .ok (.pop, 1) := by decide +kernel
theorem dJ4_append_cf468_6 : decode cJ4_append_cf468 6 = .ok (.aload_n 0, 1) := by decide +kernel
theorem dJ4_append_cf468_7 : decode cJ4_append_cf468 7 = .ok (.areturn, 1) := by decide +kernel
theorem dJ4_setLength_d00df_0 : decode cJ4_setLength_d00df 0 = .ok (.aload_n 0, 1) := by decide +kernel
theorem dJ4_setLength_d00df_1 : decode cJ4_setLength_d00df 1 = .ok (.iload_n 1, 1) := by decide +kernel
theorem dJ4_setLength_d00df_2 : decode cJ4_setLength_d00df 2 = .ok (.invokespecial 333, 3) := by decide +kernel
theorem dJ4_setLength_d00df_5 : decode cJ4_setLength_d00df 5 = .ok (.return_, 1) := by decide +kernel
theorem dJ8_newLength_cabcc_0 : decode cJ8_newLength_cabcc 0 = .ok (.iload_n 0, 1) := by decide +kernel
theorem dJ8_newLength_cabcc_1 : decode cJ8_newLength_cabcc 1 = .ok (.iload_n 1, 1) := by decide +kernel
theorem dJ8_newLength_cabcc_2 : decode cJ8_newLength_cabcc 2 = .ok (.iload_n 2, 1) := by decide +kernel
theorem dJ8_newLength_cabcc_3 : decode cJ8_newLength_cabcc 3 = .ok (.invokestatic 194, 3) := by decide +kernel
theorem dJ8_newLength_cabcc_6 : decode cJ8_newLength_cabcc 6 = .ok (.iadd, 1) := by decide +kernel
theorem dJ8_newLength_cabcc_7 : decode cJ8_newLength_cabcc 7 = .ok (.istore_n 3, 1) := by decide +kernel
theorem dJ8_newLength_cabcc_8 : decode cJ8_newLength_cabcc 8 = .ok (.iconst 0, 1) := by decide +kernel
theorem dJ8_newLength_cabcc_9 : decode cJ8_newLength_cabcc 9 = .ok (.iload_n 3, 1) := by decide +kernel
theorem dJ8_newLength_cabcc_10 : decode cJ8_newLength_cabcc 10 = .ok (.if_icmp .ge 11, 3) := by decide +kernel
theorem dJ8_newLength_cabcc_13 : decode cJ8_newLength_cabcc 13 = .ok (.iload_n 3, 1) := by decide +kernel
theorem dJ8_newLength_cabcc_14 : decode cJ8_newLength_cabcc 14 = .ok (.ldc 200, 2) := by decide +kernel
theorem dJ8_newLength_cabcc_16 : decode cJ8_newLength_cabcc 16 = .ok (.if_icmp .gt 5, 3) := by decide +kernel
theorem dJ8_newLength_cabcc_19 : decode cJ8_newLength_cabcc 19 = .ok (.iload_n 3, 1) := by decide +kernel
theorem dJ8_newLength_cabcc_20 : decode cJ8_newLength_cabcc 20 = .ok (.ireturn, 1) := by decide +kernel
theorem dJ8_newLength_cabcc_21 : decode cJ8_newLength_cabcc 21 = .ok (.iload_n 0, 1) := by decide +kernel
theorem dJ8_newLength_cabcc_22 : decode cJ8_newLength_cabcc 22 = .ok (.iload_n 1, 1) := by decide +kernel
theorem dJ8_newLength_cabcc_23 : decode cJ8_newLength_cabcc 23 = .ok (.invokestatic 201, 3) := by decide +kernel
theorem dJ8_newLength_cabcc_26 : decode cJ8_newLength_cabcc 26 = .ok (.ireturn, 1) := by decide +kernel
def EJ1_canEncode_fc78dK : List (Nat × Nat) := []
def EJ5_isLatin1_aae02 : List (Nat × Nat) := []
def EJ8_newLength_cabcc : List (Nat × Nat) := []
def EJ5_newCapacity_0f7a4 : List (Nat × Nat) := []
def EJ5_ensureCapacityInternal_d00df : List (Nat × Nat) := []
def EJ5_setLength_d00df : List (Nat × Nat) := [(0, 2), (0, 3)]
def EJ4_setLength_d00df : List (Nat × Nat) := [(0, 2), (0, 3)]
def EJ5_append_3fe6f : List (Nat × Nat) := [(0, 3), (196, 0)]
def EJ4_append_cf468 : List (Nat × Nat) := [(0, 3), (196, 0)]
set_option maxHeartbeats 4000000 in
set_option maxRecDepth 20000 in
theorem uJ1_canEncode_fc78dK (l : Launch) (dC : Nat → ClassId) (dI : Nat → Nat → Nat) (ca : Nat → ClassId) (base : Nat) (B : jF) (hB : jBok B) (hAp : jAp (dC, dI)) (G0 : jT) (H0 : Heap) (a0 : Int32) : Met l yJ1_canEncode_fc78d (jw yJ1_canEncode_fc78d cJ1_canEncode_fc78d 1 (some .boolean)) ({ frames := 0, cells := 0, slots := 0, locals := 0 }) (va_Pc [.int a0] (fun U => U.heap = H0 ∧ jX B base G0 [] H0 ∧ jG dC dI ca base U ∧ jP (dC, dI) G0 H0 [] ∧ 0 ≤ a0.toInt ∧ a0.toInt ≤ 255)) (va_Qi (S := Unit) (fun r u => (r = 0 ∨ r = 1) ∧ (r.toInt = 1)) (fun u t => jRt (dC, dI) B base G0 EJ1_canEncode_fc78dK H0 [] t.heap) (jA base)) 0 0 (jA base) := by
  refine Met.ofW (cc := cJ1_canEncode_fc78d) (maxL := 1) (ret := (some .boolean)) (by decide) rfl ?_
  intro p e s m args below meth c s₁ Bd hml hv
  obtain ⟨rfl, hH0, hX, hG, hP0, hp0, hp1⟩ := hv
  have hK := hG.1
  have hx := Bd.exec
  have hb := Bd.bytes
  have hr := Bd.returns
  have hts := atoms_spec (ws := (jw yJ1_canEncode_fc78d cJ1_canEncode_fc78d 1 (some .boolean))) Bd.pre
  have htw : ∀ w ∈ jWl, w.before _ s = true := fun w h => hts w (List.mem_cons_of_mem _ h)
  have hown : s.vm.findClass RJ1 = some m.cls := findClass_of_methodNamed Bd.named
  have hlocks := Bd.notSynchronized
  obtain ⟨Q, hQ⟩ : ∃ Q, Q = MQ below (va_Qi (S := Unit) (fun r u => (r = 0 ∨ r = 1) ∧ (r.toInt = 1)) (fun u t => jRt (dC, dI) B base G0 EJ1_canEncode_fc78dK H0 [] t.heap) (jA base)) ([.int a0] : List Value).toArray s 0 0 (jA base) := ⟨_, rfl⟩
  rw [← hQ]
  have hl := lv_entry ([.int a0]) (n := 1) (Nat.le_of_ble_eq_true rfl)
  rw [lg_entry_eq]
  generalize (lg_sl ([.int a0]) ++ List.replicate (1 - (lg_sl ([.int a0])).length) Slot.unset).toArray = ls at hl ⊢
  have hl : lv_has ls 1 [(0, .int a0)] := hl
  generalize hR : (headSpec (jw yJ1_canEncode_fc78d cJ1_canEncode_fc78d 1 (some .boolean)) ({ frames := 0, cells := 0, slots := 0, locals := 0 })).room = R
  subst hH0
  have hh : jSt (dC, dI) B base G0 G0 EJ1_canEncode_fc78dK s.heap 0 0 [] [] [] s.heap [] := jSt.start hX hP0 jMc.nil jIs.nil
  clear hX hP0
  have hk0 : (0 : Int32).toInt = 0 := by decide
  have hk1 : (1 : Int32).toInt = 1 := by decide
  have hk255 : (255 : Int32).toInt = 255 := by decide
  have hrg_a0 := jb_rng a0
  refine lv_iload_n hx hb dJ1_canEncode_fc78d_0 rfl (lv_at hl 0 rfl) ?_
  refine lv_sipush (v := 255) hx hb dJ1_canEncode_fc78d_1 (by decide) ?_
  refine lv_icmp_gt (tgt := 11) hx hb dJ1_canEncode_fc78d_4 (by decide) (fun c_1 => ?_) (fun c_1 => ?_)
  · skip
    have c_1' : a0.toInt > 255 := jb_gt (rfl) ((by decide)) c_1
    refine lv_iconst (v := 0) hx hb dJ1_canEncode_fc78d_11 (by decide) ?_
    rw [hQ]
    exact W.zret (v := 0) hx hb hr (jb_nz (Or.inl rfl)) (fun t ht hW => ⟨⟨0, (), rfl, ⟨(Or.inl rfl), by first | omega | rfl | assumption | decide | exact Or.inl rfl | exact Or.inr rfl | (simp only; omega)⟩, hh.rt (M1 := []) [] rfl ht⟩, by rw [ht]; try exact hh.1.1, fun q h9 hq => by rw [ht]; try exact hh.1.2.1 q h9 hq⟩) hh.1.2.2 dJ1_canEncode_fc78d_12
  · skip
    have c_1' : a0.toInt ≤ 255 := jb_gt_n (rfl) ((by decide)) c_1
    refine lv_iconst (v := 1) hx hb dJ1_canEncode_fc78d_7 (by decide) ?_
    refine lv_goto (tgt := 12) hx hb dJ1_canEncode_fc78d_8 (by decide) ?_
    rw [hQ]
    exact W.zret (v := 1) hx hb hr (jb_nz (Or.inr rfl)) (fun t ht hW => ⟨⟨1, (), rfl, ⟨(Or.inr rfl), by first | omega | rfl | assumption | decide | exact Or.inl rfl | exact Or.inr rfl | (simp only; omega)⟩, hh.rt (M1 := []) [] rfl ht⟩, by rw [ht]; try exact hh.1.1, fun q h9 hq => by rw [ht]; try exact hh.1.2.1 q h9 hq⟩) hh.1.2.2 dJ1_canEncode_fc78d_12
set_option maxHeartbeats 4000000 in
set_option maxRecDepth 20000 in
theorem uJ5_isLatin1_aae02 (l : Launch) (dC : Nat → ClassId) (dI : Nat → Nat → Nat) (ca : Nat → ClassId) (base : Nat) (B : jF) (hB : jBok B) (hAp : jAp (dC, dI)) (hB0 : ∀ n G a H, B 0 n G a H ↔ jOb (dC, dI) 0 4 (Fz0 n G) a H) (G0 : jT) (H0 : Heap) (r0 : Nat) : Met l yJ5_isLatin1_aae02 (jw yJ5_isLatin1_aae02 cJ5_isLatin1_aae02 1 (some .boolean)) ({ frames := 0, cells := 0, slots := 0, locals := 0 }) (va_Pc [.ref r0] (fun U => U.heap = H0 ∧ jX B base G0 [] H0 ∧ jG dC dI ca base U ∧ G0 r0 = some (0, 0) ∧ jP (dC, dI) G0 H0 [] ∧ True)) (va_Qi (S := Unit) (fun r u => (r = 0 ∨ r = 1) ∧ (r.toInt = 1)) (fun u t => jRt (dC, dI) B base G0 EJ5_isLatin1_aae02 H0 [] t.heap) (jA base)) 0 0 (jA base) := by
  refine Met.ofW (cc := cJ5_isLatin1_aae02) (maxL := 1) (ret := (some .boolean)) (by decide) rfl ?_
  intro p e s m args below meth c s₁ Bd hml hv
  obtain ⟨rfl, hH0, hX, hG, hg_r0, hP0, hp0⟩ := hv
  have hK := hG.1
  have hx := Bd.exec
  have hb := Bd.bytes
  have hr := Bd.returns
  have hts := atoms_spec (ws := (jw yJ5_isLatin1_aae02 cJ5_isLatin1_aae02 1 (some .boolean))) Bd.pre
  have htw : ∀ w ∈ jWl, w.before _ s = true := fun w h => hts w (List.mem_cons_of_mem _ h)
  have hown : s.vm.findClass RJ5 = some m.cls := findClass_of_methodNamed Bd.named
  have hlocks := Bd.notSynchronized
  obtain ⟨Q, hQ⟩ : ∃ Q, Q = MQ below (va_Qi (S := Unit) (fun r u => (r = 0 ∨ r = 1) ∧ (r.toInt = 1)) (fun u t => jRt (dC, dI) B base G0 EJ5_isLatin1_aae02 H0 [] t.heap) (jA base)) ([.ref r0] : List Value).toArray s 0 0 (jA base) := ⟨_, rfl⟩
  rw [← hQ]
  have hl := lv_entry ([.ref r0]) (n := 1) (Nat.le_of_ble_eq_true rfl)
  rw [lg_entry_eq]
  generalize (lg_sl ([.ref r0]) ++ List.replicate (1 - (lg_sl ([.ref r0])).length) Slot.unset).toArray = ls at hl ⊢
  have hl : lv_has ls 1 [(0, .ref r0)] := hl
  generalize hR : (headSpec (jw yJ5_isLatin1_aae02 cJ5_isLatin1_aae02 1 (some .boolean)) ({ frames := 0, cells := 0, slots := 0, locals := 0 })).room = R
  subst hH0
  have hh : jSt (dC, dI) B base G0 G0 EJ5_isLatin1_aae02 s.heap 0 0 [] [] [] s.heap [] := jSt.start hX hP0 jMc.nil jIs.nil
  clear hX hP0
  have hk0 : (0 : Int32).toInt = 0 := by decide
  have hk1 : (1 : Int32).toInt = 1 := by decide
  have hly_0_1 := htw (u_lay RJ4 TJ4 1) (jWc_wsJ40 _ (u_in_lay (by decide)))
  have hlk_22 := (htw (.fieldLink RJ5 22 "java/lang/AbstractStringBuilder" "coder" "B") (jWr_13 _ (List.mem_of_getElem? (i := 12) rfl)))
  refine va_gets hx hb hG.2.2.2.2.1 hh.1 hown (htw (.fieldLink RJ5 18 "java/lang/String" "COMPACT_STRINGS" "Z") (jWr_13 _ (List.mem_of_getElem? (i := 10) rfl))) (fun _ h9 => h9) dJ5_isLatin1_aae02_0 ?_
  refine lv_if_eq (tgt := 17) hx hb dJ5_isLatin1_aae02_3 (by decide) (fun c_2 => ?_) (fun c_2 => ?_)
  · skip
    exact absurd c_2 (by decide)
  · skip
    refine lv_aload_n hx hb dJ5_isLatin1_aae02_6 rfl (lv_at hl 0 rfl) ?_
    obtain ⟨v_3, hv_3, hh_4⟩ := hh.pin (C := RJ4) (T := TJ4) (N := 4) hB0 rfl (by decide) hg_r0 (i := 1) (by decide) rfl
    clear hh
    obtain ⟨coder_5, rfl, hlocoder_5, hhicoder_5⟩ := hv_3
    obtain rfl : coder_5 = 0 := Int32.toInt_inj.mp (by rw [show (0 : Int32).toInt = 0 by decide]; omega)
    refine j7_read hx hb hown hK (C := RJ4) (T := TJ4) (N := 4) rfl hly_0_1 hlk_22 (hh_4.at 0 rfl) dJ5_isLatin1_aae02_7 ?_
    refine lv_if_ne (tgt := 17) hx hb dJ5_isLatin1_aae02_10 (by decide) (fun c_6 => ?_) (fun c_6 => ?_)
    · skip
      exact absurd c_6 (by decide)
    · skip
      refine lv_iconst (v := 1) hx hb dJ5_isLatin1_aae02_13 (by decide) ?_
      refine lv_goto (tgt := 18) hx hb dJ5_isLatin1_aae02_14 (by decide) ?_
      rw [hQ]
      exact W.zret (v := 1) hx hb hr (jb_nz (Or.inr rfl)) (fun t ht hW => ⟨⟨1, (), rfl, ⟨(Or.inr rfl), by first | omega | rfl | assumption | decide | exact Or.inl rfl | exact Or.inr rfl | (simp only; omega)⟩, hh_4.rt (M1 := []) [] rfl ht⟩, by rw [ht]; try exact hh_4.1.1, fun q h9 hq => by rw [ht]; try exact hh_4.1.2.1 q h9 hq⟩) hh_4.1.2.2 dJ5_isLatin1_aae02_18
set_option maxHeartbeats 4000000 in
set_option maxRecDepth 20000 in
theorem uJ8_newLength_cabcc (l : Launch) (dC : Nat → ClassId) (dI : Nat → Nat → Nat) (ca : Nat → ClassId) (base : Nat) (B : jF) (hB : jBok B) (hAp : jAp (dC, dI)) (G0 : jT) (H0 : Heap) (a0 : Int32) (a1 : Int32) (a2 : Int32) : Met l yJ8_newLength_cabcc (jw yJ8_newLength_cabcc cJ8_newLength_cabcc 4 (some .int)) ({ frames := 1, cells := 0, slots := 0, locals := 32 }) (va_Pc [.int a0, .int a1, .int a2] (fun U => U.heap = H0 ∧ jX B base G0 [] H0 ∧ jG dC dI ca base U ∧ jP (dC, dI) G0 H0 [] ∧ 0 ≤ a0.toInt ∧ a0.toInt ≤ 100000 ∧ 1 ≤ a1.toInt ∧ a1.toInt ≤ 100000 ∧ 0 ≤ a2.toInt ∧ a2.toInt ≤ 100000)) (va_Qi (S := Unit) (fun r u => (a0.toInt + a1.toInt ≤ r.toInt ∧ a0.toInt + a2.toInt ≤ r.toInt ∧ (r.toInt ≤ a0.toInt + a1.toInt ∨ r.toInt ≤ a0.toInt + a2.toInt))) (fun u t => jRt (dC, dI) B base G0 EJ8_newLength_cabcc H0 [] t.heap) (jA base)) 0 0 (jA base) := by
  refine Met.ofW (cc := cJ8_newLength_cabcc) (maxL := 4) (ret := (some .int)) (by decide) rfl ?_
  intro p e s m args below meth c s₁ Bd hml hv
  obtain ⟨rfl, hH0, hX, hG, hP0, hp0, hp1, hp2, hp3, hp4, hp5⟩ := hv
  have hK := hG.1
  have hx := Bd.exec
  have hb := Bd.bytes
  have hr := Bd.returns
  have hts := atoms_spec (ws := (jw yJ8_newLength_cabcc cJ8_newLength_cabcc 4 (some .int))) Bd.pre
  have htw : ∀ w ∈ jWl, w.before _ s = true := fun w h => hts w (List.mem_cons_of_mem _ h)
  have hown : s.vm.findClass RJ8 = some m.cls := findClass_of_methodNamed Bd.named
  have hlocks := Bd.notSynchronized
  obtain ⟨Q, hQ⟩ : ∃ Q, Q = MQ below (va_Qi (S := Unit) (fun r u => (a0.toInt + a1.toInt ≤ r.toInt ∧ a0.toInt + a2.toInt ≤ r.toInt ∧ (r.toInt ≤ a0.toInt + a1.toInt ∨ r.toInt ≤ a0.toInt + a2.toInt))) (fun u t => jRt (dC, dI) B base G0 EJ8_newLength_cabcc H0 [] t.heap) (jA base)) ([.int a0, .int a1, .int a2] : List Value).toArray s 0 0 (jA base) := ⟨_, rfl⟩
  rw [← hQ]
  have hl := lv_entry ([.int a0, .int a1, .int a2]) (n := 4) (Nat.le_of_ble_eq_true rfl)
  rw [lg_entry_eq]
  generalize (lg_sl ([.int a0, .int a1, .int a2]) ++ List.replicate (4 - (lg_sl ([.int a0, .int a1, .int a2])).length) Slot.unset).toArray = ls at hl ⊢
  have hl : lv_has ls 4 [(0, .int a0), (1, .int a1), (2, .int a2)] := hl
  generalize hR : (headSpec (jw yJ8_newLength_cabcc cJ8_newLength_cabcc 4 (some .int)) ({ frames := 1, cells := 0, slots := 0, locals := 32 })).room = R
  subst hH0
  have hh : jSt (dC, dI) B base G0 G0 EJ8_newLength_cabcc s.heap 0 0 [] [] [] s.heap [] := jSt.start hX hP0 jMc.nil jIs.nil
  clear hX hP0
  have hk0 : (0 : Int32).toInt = 0 := by decide
  have hk1 : (1 : Int32).toInt = 1 := by decide
  have hk2147483639 : (2147483639 : Int32).toInt = 2147483639 := by decide
  have hcs_200 := htw (.constant RJ8 200 2147483639) (jWr_34 _ (List.mem_of_getElem? (i := 8) rfl))
  have hrg_a0 := jb_rng a0
  have hrg_a1 := jb_rng a1
  have hrg_a2 := jb_rng a2
  refine lv_iload_n hx hb dJ8_newLength_cabcc_0 rfl (lv_at hl 0 rfl) ?_
  refine lv_iload_n hx hb dJ8_newLength_cabcc_1 rfl (lv_at hl 1 rfl) ?_
  refine lv_iload_n hx hb dJ8_newLength_cabcc_2 rfl (lv_at hl 2 rfl) ?_
  refine va_mmax hx hb (by rw [hml]; exact hl.1.symm) hown (htw (.methodLink RJ8 194 Lib.Math.max.name) (jWr_34 _ (List.mem_of_getElem? (i := 7) rfl))) (htw (.static Lib.Math.max.name) (jWr_3 _ (List.mem_of_getElem? (i := 6) rfl))) (htw (.initialized "java/lang/Math") (jWr_3 _ (List.mem_of_getElem? (i := 7) rfl))) (htw (.code Lib.Math.max.name Lib.Math.max.code 2 (some .int)) (jWr_3 _ (List.mem_of_getElem? (i := 8) rfl))) (by rw [← hR]; exact Nat.le_of_ble_eq_true rfl) (by rw [← hR]; exact Nat.le_of_ble_eq_true rfl) (Nat.zero_le _) (Nat.zero_le _) dJ8_newLength_cabcc_3 ?_
  refine lv_topi (fun z_1 ez_1 => ?_)
  have hz_1 := jb_max ez_1
  refine lv_iadd hx hb dJ8_newLength_cabcc_6 ?_
  refine lv_topi (fun z_2 ez_2 => ?_)
  have hz_2 : z_2.toInt = a0.toInt + z_1.toInt := by rw [ez_2]; exact jb_iadd2 (rfl) (rfl) (by omega)
  refine lv_istore_n (lv' := [(3, .int z_2), (0, .int a0), (1, .int a1), (2, .int a2)]) hx hb dJ8_newLength_cabcc_7 rfl hl (by decide) rfl (fun ls hl => ?_)
  refine lv_iconst (v := 0) hx hb dJ8_newLength_cabcc_8 (by decide) ?_
  refine lv_iload_n hx hb dJ8_newLength_cabcc_9 rfl (lv_at hl 0 rfl) ?_
  refine lv_icmp_ge (tgt := 21) hx hb dJ8_newLength_cabcc_10 (by decide) (fun c_3 => ?_) (fun c_3 => ?_)
  · skip
    have c_3' : 0 ≥ z_2.toInt := jb_ge ((by decide)) (rfl) c_3
    exact absurd c_3' (by omega)
  · skip
    have c_3' : 0 < z_2.toInt := jb_ge_n ((by decide)) (rfl) c_3
    refine lv_iload_n hx hb dJ8_newLength_cabcc_13 rfl (lv_at hl 0 rfl) ?_
    refine lv_ldc hx hb hown hcs_200 dJ8_newLength_cabcc_14 ?_
    refine lv_icmp_gt (tgt := 21) hx hb dJ8_newLength_cabcc_16 (by decide) (fun c_4 => ?_) (fun c_4 => ?_)
    · skip
      have c_4' : z_2.toInt > 2147483639 := jb_gt (rfl) ((by decide)) c_4
      exact absurd c_4' (by omega)
    · skip
      have c_4' : z_2.toInt ≤ 2147483639 := jb_gt_n (rfl) ((by decide)) c_4
      refine lv_iload_n hx hb dJ8_newLength_cabcc_19 rfl (lv_at hl 0 rfl) ?_
      rw [hQ]
      exact W.iret (v := z_2) hx hb hr (fun t ht hW => ⟨⟨z_2, (), rfl, by first | omega | (refine ⟨?_, ?_, ?_⟩ <;> (first | omega | rfl | assumption | decide | exact Or.inl rfl | exact Or.inr rfl | (simp only; omega))), hh.rt (M1 := []) [] rfl ht⟩, by rw [ht]; try exact hh.1.1, fun q h9 hq => by rw [ht]; try exact hh.1.2.1 q h9 hq⟩) hh.1.2.2 dJ8_newLength_cabcc_20
set_option maxHeartbeats 4000000 in
set_option maxRecDepth 20000 in
theorem uJ5_newCapacity_0f7a4 (l : Launch) (dC : Nat → ClassId) (dI : Nat → Nat → Nat) (ca : Nat → ClassId) (base : Nat) (B : jF) (hB : jBok B) (hAp : jAp (dC, dI)) (hB0 : ∀ n G a H, B 0 n G a H ↔ jOb (dC, dI) 0 4 (Fz0 n G) a H) (hB196 : ∀ n G a H, B 196 n G a H ↔ jAr (dC, dI) (ca 0) (fun j z => jBf j z) n a H) (G0 : jT) (H0 : Heap) (r0 : Nat) (a1 : Int32) (pc : Int32) (pa : Nat) (n_pa : Nat) : Met l yJ5_newCapacity_0f7a4 (jw yJ5_newCapacity_0f7a4 cJ5_newCapacity_0f7a4 6 (some .int)) ({ frames := 2, cells := 0, slots := 0, locals := 55 }) (va_Pc [.ref r0, .int a1] (fun U => U.heap = H0 ∧ jX B base G0 [] H0 ∧ jG dC dI ca base U ∧ G0 r0 = some (0, 0) ∧ G0 pa = some (196, n_pa) ∧ jP (dC, dI) G0 H0 [(r0, 0, 3, .int pc), (r0, 0, 0, .ref pa)] ∧ n_pa ≤ 1000 ∧ n_pa < a1.toInt ∧ a1.toInt ≤ 1001)) (va_Qi (S := Unit) (fun r u => (a1.toInt ≤ r.toInt ∧ n_pa + n_pa + 2 ≤ r.toInt ∧ (r.toInt ≤ a1.toInt ∨ r.toInt ≤ n_pa + n_pa + 2))) (fun u t => jRt (dC, dI) B base G0 EJ5_newCapacity_0f7a4 H0 [] t.heap) (jA base)) 0 0 (jA base) := by
  refine Met.ofW (cc := cJ5_newCapacity_0f7a4) (maxL := 6) (ret := (some .int)) (by decide) rfl ?_
  intro p e s m args below meth c s₁ Bd hml hv
  obtain ⟨rfl, hH0, hX, hG, hg_r0, hg_pa, hP0, hp0, hp1, hp2⟩ := hv
  have hK := hG.1
  have hx := Bd.exec
  have hb := Bd.bytes
  have hr := Bd.returns
  have hts := atoms_spec (ws := (jw yJ5_newCapacity_0f7a4 cJ5_newCapacity_0f7a4 6 (some .int))) Bd.pre
  have htw : ∀ w ∈ jWl, w.before _ s = true := fun w h => hts w (List.mem_cons_of_mem _ h)
  have hown : s.vm.findClass RJ5 = some m.cls := findClass_of_methodNamed Bd.named
  have hlocks := Bd.notSynchronized
  obtain ⟨Q, hQ⟩ : ∃ Q, Q = MQ below (va_Qi (S := Unit) (fun r u => (a1.toInt ≤ r.toInt ∧ n_pa + n_pa + 2 ≤ r.toInt ∧ (r.toInt ≤ a1.toInt ∨ r.toInt ≤ n_pa + n_pa + 2))) (fun u t => jRt (dC, dI) B base G0 EJ5_newCapacity_0f7a4 H0 [] t.heap) (jA base)) ([.ref r0, .int a1] : List Value).toArray s 0 0 (jA base) := ⟨_, rfl⟩
  rw [← hQ]
  have hl := lv_entry ([.ref r0, .int a1]) (n := 6) (Nat.le_of_ble_eq_true rfl)
  rw [lg_entry_eq]
  generalize (lg_sl ([.ref r0, .int a1]) ++ List.replicate (6 - (lg_sl ([.ref r0, .int a1])).length) Slot.unset).toArray = ls at hl ⊢
  have hl : lv_has ls 6 [(0, .ref r0), (1, .int a1)] := hl
  generalize hR : (headSpec (jw yJ5_newCapacity_0f7a4 cJ5_newCapacity_0f7a4 6 (some .int)) ({ frames := 2, cells := 0, slots := 0, locals := 55 })).room = R
  subst hH0
  have hh : jSt (dC, dI) B base G0 G0 EJ5_newCapacity_0f7a4 s.heap 0 0 [(r0, 0, 3, .int pc), (r0, 0, 0, .ref pa)] [] [] s.heap [] := jSt.start hX hP0 jMc.nil jIs.nil
  clear hX hP0
  have hk0 : (0 : Int32).toInt = 0 := by decide
  have hk1 : (1 : Int32).toInt = 1 := by decide
  have hk2 : (2 : Int32).toInt = 2 := by decide
  have hk2147483647 : (2147483647 : Int32).toInt = 2147483647 := by decide
  have hly_0_0 := htw (u_lay RJ4 TJ4 0) (jWc_wsJ40 _ (u_in_lay (by decide)))
  have hly_0_1 := htw (u_lay RJ4 TJ4 1) (jWc_wsJ40 _ (u_in_lay (by decide)))
  have hlk_15 := (htw (.fieldLink RJ5 15 "java/lang/AbstractStringBuilder" "value" "[B") (jWr_13 _ (List.mem_of_getElem? (i := 11) rfl)))
  have hlk_22 := (htw (.fieldLink RJ5 22 "java/lang/AbstractStringBuilder" "coder" "B") (jWr_13 _ (List.mem_of_getElem? (i := 12) rfl)))
  have hcs_39 := htw (.constant RJ5 39 2147483647) (jWr_45 _ (List.mem_of_getElem? (i := 21) rfl))
  have hrg_a1 := jb_rng a1
  refine lv_aload_n hx hb dJ5_newCapacity_0f7a4_0 rfl (lv_at hl 0 rfl) ?_
  refine j7_read hx hb hown hK (C := RJ4) (T := TJ4) (N := 4) rfl hly_0_0 hlk_15 (hh.at 1 rfl) dJ5_newCapacity_0f7a4_1 ?_
  refine j7_len hx hb hK hh hB196 0 rfl (by decide) hg_pa (by omega) dJ5_newCapacity_0f7a4_4 (fun z_1 hz_1 => ?_)
  refine lv_istore_n (lv' := [(2, .int z_1), (0, .ref r0), (1, .int a1)]) hx hb dJ5_newCapacity_0f7a4_5 rfl hl (by decide) rfl (fun ls hl => ?_)
  refine lv_iload_n hx hb dJ5_newCapacity_0f7a4_6 rfl (lv_at hl 2 rfl) ?_
  refine lv_aload_n hx hb dJ5_newCapacity_0f7a4_7 rfl (lv_at hl 1 rfl) ?_
  obtain ⟨v_2, hv_2, hh_3⟩ := hh.pin (C := RJ4) (T := TJ4) (N := 4) hB0 rfl (by decide) hg_r0 (i := 1) (by decide) rfl
  clear hh
  obtain ⟨coder_4, rfl, hlocoder_4, hhicoder_4⟩ := hv_2
  obtain rfl : coder_4 = 0 := Int32.toInt_inj.mp (by rw [show (0 : Int32).toInt = 0 by decide]; omega)
  refine j7_read hx hb hown hK (C := RJ4) (T := TJ4) (N := 4) rfl hly_0_1 hlk_22 (hh_3.at 0 rfl) dJ5_newCapacity_0f7a4_8 ?_
  refine lv_ishl hx hb dJ5_newCapacity_0f7a4_11 ?_
  refine lv_topi (fun z_5 ez_5 => ?_)
  have hz_5 : z_5.toInt = a1.toInt := by rw [ez_5, jb_shl0]; try exact rfl
  refine lv_istore_n (lv' := [(3, .int z_5), (2, .int z_1), (0, .ref r0), (1, .int a1)]) hx hb dJ5_newCapacity_0f7a4_12 rfl hl (by decide) rfl (fun ls hl => ?_)
  refine lv_iload_n hx hb dJ5_newCapacity_0f7a4_13 rfl (lv_at hl 0 rfl) ?_
  refine lv_iload_n hx hb dJ5_newCapacity_0f7a4_14 rfl (lv_at hl 1 rfl) ?_
  refine lv_isub hx hb dJ5_newCapacity_0f7a4_15 ?_
  refine lv_topi (fun z_6 ez_6 => ?_)
  have hz_6 : z_6.toInt = z_5.toInt - z_1.toInt := by rw [ez_6]; exact jb_isub2 (rfl) (rfl) (by omega)
  refine lv_istore (lv' := [(4, .int z_6), (3, .int z_5), (2, .int z_1), (0, .ref r0), (1, .int a1)]) hx hb dJ5_newCapacity_0f7a4_16 hl (by decide) rfl (fun ls hl => ?_)
  refine lv_iload_n hx hb dJ5_newCapacity_0f7a4_18 rfl (lv_at hl 2 rfl) ?_
  refine lv_iload hx hb dJ5_newCapacity_0f7a4_19 (lv_at hl 0 rfl) ?_
  refine lv_iload_n hx hb dJ5_newCapacity_0f7a4_21 rfl (lv_at hl 2 rfl) ?_
  refine lv_iconst (v := 2) hx hb dJ5_newCapacity_0f7a4_22 (by decide) ?_
  refine lv_aload_n hx hb dJ5_newCapacity_0f7a4_23 rfl (lv_at hl 3 rfl) ?_
  refine j7_read hx hb hown hK (C := RJ4) (T := TJ4) (N := 4) rfl hly_0_1 hlk_22 (hh_3.at 0 rfl) dJ5_newCapacity_0f7a4_24 ?_
  refine lv_ishl hx hb dJ5_newCapacity_0f7a4_27 ?_
  refine lv_topi (fun z_7 ez_7 => ?_)
  have hz_7 : z_7.toInt = 2 := by rw [ez_7, jb_shl0]; try exact (by decide)
  refine lv_iadd hx hb dJ5_newCapacity_0f7a4_28 ?_
  refine lv_topi (fun z_8 ez_8 => ?_)
  have hz_8 : z_8.toInt = z_1.toInt + z_7.toInt := by rw [ez_8]; exact jb_iadd2 (rfl) (rfl) (by omega)
  refine va_calli (A0 := jA base) (H0 := s.heap) (va_runS (As := [.int z_1, .int z_6, .int z_8]) (rest := []) ⟨hx, hb, hml, hown, hts⟩ (uJ8_newLength_cabcc l dC dI ca base B hB hAp G0 s.heap z_1 z_6 z_8) (va_cwS 3 hts (jgS (jWr_45 _ (List.mem_of_getElem? (i := 22) rfl)) (jWr_34 _ (List.mem_of_getElem? (i := 4) rfl)) (jWr_34 _ (List.mem_of_getElem? (i := 5) rfl)) (jWr_34 _ (List.mem_of_getElem? (i := 6) rfl))) rfl rfl rfl (by decide +kernel) ⟨by rw [← hR]; exact Nat.le_of_ble_eq_true rfl, by rw [← hR]; exact Nat.le_of_ble_eq_true rfl⟩) ⟨fun a U g mk q => by obtain ⟨q0, q1, q2, qK, q10, q11⟩ := q; exact ⟨q0, q1, q2, jG.calling g mk a qK, q10, q11⟩, fun U hU hW => ⟨rfl, hU, hh_3.2.1, hG.step hW hU hh_3.1, jP.nil, by first | omega | (refine ⟨?_, ?_, ?_, ?_, ?_, ?_⟩ <;> (first | omega | rfl | assumption | decide | exact Or.inl rfl | exact Or.inr rfl | (simp only; omega)))⟩⟩ rfl rfl hl.1 rfl (lv_room (Nat.le_of_ble_eq_true rfl)) dJ5_newCapacity_0f7a4_29 ⟨Nat.zero_le _, Nat.zero_le _⟩) hh_3.1 (fun q _ h => h) (fun q h => h) (fun r_10 u_9 t_9 H_9 locs_9 ht_9 hvm_9 hr_10 hb_9 hz_9 hk_9 hS_9 => ?_)
  rw [ht_9] at hb_9
  obtain ⟨hb_91, hb_92, hb_93, hb_94, hb_95⟩ := hb_9
  have hh_9 : jSt (dC, dI) B base G0 G0 EJ5_newCapacity_0f7a4 s.heap 0 0 [(r0, 0, 1, .int 0), (r0, 0, 3, .int pc), (r0, 0, 0, .ref pa)] [] [] H_9 locs_9 := ((hh_3.call hb_91 hb_92 hb_93 hb_94 hS_9 rfl (L1 := [(r0, 0, 1, .int 0), (r0, 0, 3, .int pc), (r0, 0, 0, .ref pa)]) [0, 1, 2] rfl rfl (M1 := []) [] rfl rfl (I1 := []) [] rfl rfl).more hb_95)
  clear hh_3 ht_9 hvm_9 hz_9 hk_9 hS_9 hb_91 hb_92 hb_93 hb_94 hb_95
  obtain ⟨hr_10_0, hr_10_1, hr_10_2⟩ := hr_10
  refine lv_istore (lv' := [(5, .int r_10), (4, .int z_6), (3, .int z_5), (2, .int z_1), (0, .ref r0), (1, .int a1)]) hx hb dJ5_newCapacity_0f7a4_32 hl (by decide) rfl (fun ls hl => ?_)
  refine lv_iload hx hb dJ5_newCapacity_0f7a4_34 (lv_at hl 0 rfl) ?_
  refine lv_ldc hx hb hown hcs_39 dJ5_newCapacity_0f7a4_36 ?_
  refine lv_icmp_ne (tgt := 51) hx hb dJ5_newCapacity_0f7a4_38 (by decide) (fun c_11 => ?_) (fun c_11 => ?_)
  · skip
    have c_11' : r_10.toInt ≠ 2147483647 := jb_ne (rfl) ((by decide)) c_11
    refine lv_iload hx hb dJ5_newCapacity_0f7a4_51 (lv_at hl 0 rfl) ?_
    refine lv_aload_n hx hb dJ5_newCapacity_0f7a4_53 rfl (lv_at hl 4 rfl) ?_
    refine j7_read hx hb hown hK (C := RJ4) (T := TJ4) (N := 4) rfl hly_0_1 hlk_22 (hh_9.at 0 rfl) dJ5_newCapacity_0f7a4_54 ?_
    refine lv_ishr hx hb dJ5_newCapacity_0f7a4_57 ?_
    refine lv_topi (fun z_12 ez_12 => ?_)
    have hz_12 : z_12.toInt = r_10.toInt / 2 ^ 0 := by rw [ez_12]; exact jb_ishr 0 (rfl) (by decide)
    rw [hQ]
    exact W.iret (v := z_12) hx hb hr (fun t ht hW => ⟨⟨z_12, (), rfl, by first | omega | (refine ⟨?_, ?_, ?_⟩ <;> (first | omega | rfl | assumption | decide | exact Or.inl rfl | exact Or.inr rfl | (simp only; omega))), hh_9.rt (M1 := []) [] rfl ht⟩, by rw [ht]; try exact hh_9.1.1, fun q h9 hq => by rw [ht]; try exact hh_9.1.2.1 q h9 hq⟩) hh_9.1.2.2 dJ5_newCapacity_0f7a4_58
  · skip
    have c_11' : r_10.toInt = 2147483647 := jb_ne_n (rfl) ((by decide)) c_11
    exact absurd c_11' (by omega)
set_option maxHeartbeats 4000000 in
set_option maxRecDepth 20000 in
theorem uJ5_ensureCapacityInternal_d00df (l : Launch) (dC : Nat → ClassId) (dI : Nat → Nat → Nat) (ca : Nat → ClassId) (base : Nat) (B : jF) (hB : jBok B) (hAp : jAp (dC, dI)) (hB0 : ∀ n G a H, B 0 n G a H ↔ jOb (dC, dI) 0 4 (Fz0 n G) a H) (hB196 : ∀ n G a H, B 196 n G a H ↔ jAr (dC, dI) (ca 0) (fun j z => jBf j z) n a H) (G0 : jT) (H0 : Heap) (r0 : Nat) (a1 : Int32) (pc : Int32) (pa : Nat) (n_pa : Nat) : Met l yJ5_ensureCapacityInternal_d00df (jw yJ5_ensureCapacityInternal_d00df cJ5_ensureCapacityInternal_d00df 3 none) ({ frames := 3, cells := 0, slots := 0, locals := 80 }) (va_Pc [.ref r0, .int a1] (fun U => U.heap = H0 ∧ jX B base G0 [] H0 ∧ jG dC dI ca base U ∧ G0 r0 = some (0, 0) ∧ G0 pa = some (196, n_pa) ∧ jP (dC, dI) G0 H0 [(r0, 0, 3, .int pc), (r0, 0, 0, .ref pa)] ∧ 0 ≤ a1.toInt ∧ a1.toInt ≤ n_pa ∧ n_pa ≤ 1000)) (va_Qv (S := Unit) (fun u => True) (fun u t => jRt (dC, dI) B base G0 EJ5_ensureCapacityInternal_d00df H0 [] t.heap) (jA base)) 0 0 (jA base) := by
  refine Met.ofW (cc := cJ5_ensureCapacityInternal_d00df) (maxL := 3) (ret := none) (by decide) rfl ?_
  intro p e s m args below meth c s₁ Bd hml hv
  obtain ⟨rfl, hH0, hX, hG, hg_r0, hg_pa, hP0, hp0, hp1, hp2⟩ := hv
  have hK := hG.1
  have hx := Bd.exec
  have hb := Bd.bytes
  have hr := Bd.returns
  have hts := atoms_spec (ws := (jw yJ5_ensureCapacityInternal_d00df cJ5_ensureCapacityInternal_d00df 3 none)) Bd.pre
  have htw : ∀ w ∈ jWl, w.before _ s = true := fun w h => hts w (List.mem_cons_of_mem _ h)
  have hown : s.vm.findClass RJ5 = some m.cls := findClass_of_methodNamed Bd.named
  have hlocks := Bd.notSynchronized
  obtain ⟨Q, hQ⟩ : ∃ Q, Q = MQ below (va_Qv (S := Unit) (fun u => True) (fun u t => jRt (dC, dI) B base G0 EJ5_ensureCapacityInternal_d00df H0 [] t.heap) (jA base)) ([.ref r0, .int a1] : List Value).toArray s 0 0 (jA base) := ⟨_, rfl⟩
  rw [← hQ]
  have hl := lv_entry ([.ref r0, .int a1]) (n := 3) (Nat.le_of_ble_eq_true rfl)
  rw [lg_entry_eq]
  generalize (lg_sl ([.ref r0, .int a1]) ++ List.replicate (3 - (lg_sl ([.ref r0, .int a1])).length) Slot.unset).toArray = ls at hl ⊢
  have hl : lv_has ls 3 [(0, .ref r0), (1, .int a1)] := hl
  generalize hR : (headSpec (jw yJ5_ensureCapacityInternal_d00df cJ5_ensureCapacityInternal_d00df 3 none) ({ frames := 3, cells := 0, slots := 0, locals := 80 })).room = R
  subst hH0
  have hh : jSt (dC, dI) B base G0 G0 EJ5_ensureCapacityInternal_d00df s.heap 0 0 [(r0, 0, 3, .int pc), (r0, 0, 0, .ref pa)] [] [] s.heap [] := jSt.start hX hP0 jMc.nil jIs.nil
  clear hX hP0
  have hk0 : (0 : Int32).toInt = 0 := by decide
  have hk1 : (1 : Int32).toInt = 1 := by decide
  have hly_0_0 := htw (u_lay RJ4 TJ4 0) (jWc_wsJ40 _ (u_in_lay (by decide)))
  have hly_0_1 := htw (u_lay RJ4 TJ4 1) (jWc_wsJ40 _ (u_in_lay (by decide)))
  have hlk_15 := (htw (.fieldLink RJ5 15 "java/lang/AbstractStringBuilder" "value" "[B") (jWr_13 _ (List.mem_of_getElem? (i := 11) rfl)))
  have hlk_22 := (htw (.fieldLink RJ5 22 "java/lang/AbstractStringBuilder" "coder" "B") (jWr_13 _ (List.mem_of_getElem? (i := 12) rfl)))
  have hrg_a1 := jb_rng a1
  refine lv_aload_n hx hb dJ5_ensureCapacityInternal_d00df_0 rfl (lv_at hl 0 rfl) ?_
  refine j7_read hx hb hown hK (C := RJ4) (T := TJ4) (N := 4) rfl hly_0_0 hlk_15 (hh.at 1 rfl) dJ5_ensureCapacityInternal_d00df_1 ?_
  refine j7_len hx hb hK hh hB196 0 rfl (by decide) hg_pa (by omega) dJ5_ensureCapacityInternal_d00df_4 (fun z_1 hz_1 => ?_)
  refine lv_aload_n hx hb dJ5_ensureCapacityInternal_d00df_5 rfl (lv_at hl 0 rfl) ?_
  obtain ⟨v_2, hv_2, hh_3⟩ := hh.pin (C := RJ4) (T := TJ4) (N := 4) hB0 rfl (by decide) hg_r0 (i := 1) (by decide) rfl
  clear hh
  obtain ⟨coder_4, rfl, hlocoder_4, hhicoder_4⟩ := hv_2
  obtain rfl : coder_4 = 0 := Int32.toInt_inj.mp (by rw [show (0 : Int32).toInt = 0 by decide]; omega)
  refine j7_read hx hb hown hK (C := RJ4) (T := TJ4) (N := 4) rfl hly_0_1 hlk_22 (hh_3.at 0 rfl) dJ5_ensureCapacityInternal_d00df_6 ?_
  refine lv_ishr hx hb dJ5_ensureCapacityInternal_d00df_9 ?_
  refine lv_topi (fun z_5 ez_5 => ?_)
  have hz_5 : z_5.toInt = z_1.toInt / 2 ^ 0 := by rw [ez_5]; exact jb_ishr 0 (rfl) (by decide)
  refine lv_istore_n (lv' := [(2, .int z_5), (0, .ref r0), (1, .int a1)]) hx hb dJ5_ensureCapacityInternal_d00df_10 rfl hl (by decide) rfl (fun ls hl => ?_)
  refine lv_iload_n hx hb dJ5_ensureCapacityInternal_d00df_11 rfl (lv_at hl 2 rfl) ?_
  refine lv_iload_n hx hb dJ5_ensureCapacityInternal_d00df_12 rfl (lv_at hl 0 rfl) ?_
  refine lv_isub hx hb dJ5_ensureCapacityInternal_d00df_13 ?_
  refine lv_topi (fun z_6 ez_6 => ?_)
  have hz_6 : z_6.toInt = a1.toInt - z_5.toInt := by rw [ez_6]; exact jb_isub2 (rfl) (rfl) (by omega)
  refine lv_if_le (tgt := 38) hx hb dJ5_ensureCapacityInternal_d00df_14 (by decide) (fun c_7 => ?_) (fun c_7 => ?_)
  · skip
    have c_7' : z_6.toInt ≤ 0 := jb_le (rfl) ((by decide)) c_7
    rw [hQ]
    exact W.vret hx hb hr (fun t ht hW => ⟨⟨(), rfl, trivial, hh_3.rt (M1 := []) [] rfl ht⟩, by rw [ht]; try exact hh_3.1.1, fun q h9 hq => by rw [ht]; try exact hh_3.1.2.1 q h9 hq⟩) hh_3.1.2.2 dJ5_ensureCapacityInternal_d00df_38
  · skip
    have c_7' : z_6.toInt > 0 := jb_le_n (rfl) ((by decide)) c_7
    exact absurd c_7' (by omega)
set_option maxHeartbeats 4000000 in
set_option maxRecDepth 20000 in
theorem uJ5_setLength_d00df (l : Launch) (dC : Nat → ClassId) (dI : Nat → Nat → Nat) (ca : Nat → ClassId) (base : Nat) (B : jF) (hB : jBok B) (hAp : jAp (dC, dI)) (hB0 : ∀ n G a H, B 0 n G a H ↔ jOb (dC, dI) 0 4 (Fz0 n G) a H) (hB196 : ∀ n G a H, B 196 n G a H ↔ jAr (dC, dI) (ca 0) (fun j z => jBf j z) n a H) (G0 : jT) (H0 : Heap) (r0 : Nat) (a1 : Int32) (pc : Int32) (pa : Nat) (n_pa : Nat) : Met l yJ5_setLength_d00df (jw yJ5_setLength_d00df cJ5_setLength_d00df 2 none) ({ frames := 4, cells := 0, slots := 0, locals := 102 }) (va_Pc [.ref r0, .int a1] (fun U => U.heap = H0 ∧ jX B base G0 [] H0 ∧ jG dC dI ca base U ∧ G0 r0 = some (0, 0) ∧ G0 pa = some (196, n_pa) ∧ jP (dC, dI) G0 H0 [(r0, 0, 3, .int pc), (r0, 0, 0, .ref pa)] ∧ a1.toInt = 0 ∧ 0 ≤ pc.toInt ∧ n_pa ≤ 1000)) (va_Qv (S := Int32) (fun u => u.toInt = 0) (fun u t => (jRt (dC, dI) B base G0 EJ5_setLength_d00df H0 [(r0, 0, 3, .int u)] t.heap) ∧ jOw (dC, dI) G0 0 r0 H0 t.heap) (jA base)) 0 0 (jA base) := by
  refine Met.ofW (cc := cJ5_setLength_d00df) (maxL := 2) (ret := none) (by decide) rfl ?_
  intro p e s m args below meth c s₁ Bd hml hv
  obtain ⟨rfl, hH0, hX, hG, hg_r0, hg_pa, hP0, hp0, hp1, hp2⟩ := hv
  have hK := hG.1
  have hx := Bd.exec
  have hb := Bd.bytes
  have hr := Bd.returns
  have hts := atoms_spec (ws := (jw yJ5_setLength_d00df cJ5_setLength_d00df 2 none)) Bd.pre
  have htw : ∀ w ∈ jWl, w.before _ s = true := fun w h => hts w (List.mem_cons_of_mem _ h)
  have hown : s.vm.findClass RJ5 = some m.cls := findClass_of_methodNamed Bd.named
  have hlocks := Bd.notSynchronized
  obtain ⟨Q, hQ⟩ : ∃ Q, Q = MQ below (va_Qv (S := Int32) (fun u => u.toInt = 0) (fun u t => (jRt (dC, dI) B base G0 EJ5_setLength_d00df H0 [(r0, 0, 3, .int u)] t.heap) ∧ jOw (dC, dI) G0 0 r0 H0 t.heap) (jA base)) ([.ref r0, .int a1] : List Value).toArray s 0 0 (jA base) := ⟨_, rfl⟩
  rw [← hQ]
  have hl := lv_entry ([.ref r0, .int a1]) (n := 2) (Nat.le_of_ble_eq_true rfl)
  rw [lg_entry_eq]
  generalize (lg_sl ([.ref r0, .int a1]) ++ List.replicate (2 - (lg_sl ([.ref r0, .int a1])).length) Slot.unset).toArray = ls at hl ⊢
  have hl : lv_has ls 2 [(0, .ref r0), (1, .int a1)] := hl
  generalize hR : (headSpec (jw yJ5_setLength_d00df cJ5_setLength_d00df 2 none) ({ frames := 4, cells := 0, slots := 0, locals := 102 })).room = R
  subst hH0
  have hh : jSt (dC, dI) B base G0 G0 EJ5_setLength_d00df s.heap 0 0 [(r0, 0, 3, .int pc), (r0, 0, 0, .ref pa)] [] [] s.heap [] := jSt.start hX hP0 jMc.nil jIs.nil
  clear hX hP0
  have hk0 : (0 : Int32).toInt = 0 := by decide
  have hk1 : (1 : Int32).toInt = 1 := by decide
  have hly_0_0 := htw (u_lay RJ4 TJ4 0) (jWc_wsJ40 _ (u_in_lay (by decide)))
  have hly_0_2 := htw (u_lay RJ4 TJ4 2) (jWc_wsJ40 _ (u_in_lay (by decide)))
  have hly_0_3 := htw (u_lay RJ4 TJ4 3) (jWc_wsJ40 _ (u_in_lay (by decide)))
  have hlk_79 := (htw (.fieldLink RJ5 79 "java/lang/AbstractStringBuilder" "count" "I") (jWr_45 _ (List.mem_of_getElem? (i := 9) rfl)))
  have hlk_15 := (htw (.fieldLink RJ5 15 "java/lang/AbstractStringBuilder" "value" "[B") (jWr_13 _ (List.mem_of_getElem? (i := 11) rfl)))
  have hlk_73 := (htw (.fieldLink RJ5 73 "java/lang/AbstractStringBuilder" "maybeLatin1" "Z") (jWr_45 _ (List.mem_of_getElem? (i := 10) rfl)))
  have hrg_a1 := jb_rng a1
  have hh_1 := hh.addI (jOw.ie (dC := dC) (dI := dI) (G0 := G0) (k := 0) (r := r0) (H0 := s.heap) (F := [(0, 0), (0, 1), (0, 2), (0, 3)]) (C := RJ4) (T := TJ4) (N := 4) rfl (by decide) hh.2.2.2.2.1 (jOw.rf))
  clear hh
  refine lv_iload_n hx hb dJ5_setLength_d00df_0 rfl (lv_at hl 1 rfl) ?_
  refine lv_if_ge (tgt := 13) hx hb dJ5_setLength_d00df_1 (by decide) (fun c_2 => ?_) (fun c_2 => ?_)
  · skip
    have c_2' : a1.toInt ≥ 0 := jb_ge (rfl) ((by decide)) c_2
    refine lv_aload_n hx hb dJ5_setLength_d00df_13 rfl (lv_at hl 0 rfl) ?_
    refine lv_iload_n hx hb dJ5_setLength_d00df_14 rfl (lv_at hl 1 rfl) ?_
    refine va_callv (A0 := jA base) (H0 := s.heap) (va_runU (As := [.int a1]) (rest := []) ⟨hx, hb, hml, hown, hts⟩ (uJ5_ensureCapacityInternal_d00df l dC dI ca base B hB hAp hB0 hB196 G0 s.heap r0 a1 pc pa n_pa) (va_cwU 1 hts (jgX (jWr_45 _ (List.mem_of_getElem? (i := 11) rfl)) (jWr_45 _ (List.mem_of_getElem? (i := 12) rfl)) (jWr_45 _ (List.mem_of_getElem? (i := 13) rfl)) (jWr_45 _ (List.mem_of_getElem? (i := 14) rfl)) (jWr_13 _ (List.mem_of_getElem? (i := 7) rfl)) (jWr_45 _ (List.mem_of_getElem? (i := 15) rfl))) rfl rfl rfl rfl (by decide +kernel) ⟨by rw [← hR]; exact Nat.le_of_ble_eq_true rfl, by rw [← hR]; exact Nat.le_of_ble_eq_true rfl⟩) ⟨fun a U g mk q => by obtain ⟨q0, q1, q2, qK, q10, q11, q12, q13⟩ := q; exact ⟨q0, q1, q2, jG.calling g mk a qK, q10, q11, q12, q13⟩, hh_1.recv (C := RJ4) (T := TJ4) (N := 4) hB0 rfl (by decide) hg_r0 hK, fun U hU hW => ⟨rfl, hU, hh_1.2.1, hG.step hW hU hh_1.1, hg_r0, hg_pa, (hh_1.2.2.1.sub (L1 := [(r0, 0, 3, .int pc), (r0, 0, 0, .ref pa)]) [0, 1] rfl), by first | omega | (refine ⟨?_, ?_, ?_⟩ <;> (first | omega | rfl | assumption | decide | exact Or.inl rfl | exact Or.inr rfl | (simp only; omega)))⟩⟩ rfl rfl hl.1 rfl (lv_room (Nat.le_of_ble_eq_true rfl)) dJ5_setLength_d00df_15 ⟨Nat.zero_le _, Nat.zero_le _⟩) hh_1.1 (fun q _ h => h) (fun q h => h) (fun u_3 t_3 H_3 locs_3 ht_3 hvm_3 hr_4 hb_3 hz_3 hk_3 hS_3 => ?_)
    rw [ht_3] at hb_3
    obtain ⟨hb_31, hb_32, hb_33, hb_34, hb_35⟩ := hb_3
    have hh_3 : jSt (dC, dI) B base G0 G0 EJ5_setLength_d00df s.heap 0 0 [(r0, 0, 3, .int pc), (r0, 0, 0, .ref pa)] [] [([(0, 0), (0, 1), (0, 2), (0, 3)], jOw (dC, dI) G0 0 r0 s.heap)] H_3 locs_3 := ((hh_1.call hb_31 hb_32 hb_33 hb_34 hS_3 rfl (L1 := [(r0, 0, 3, .int pc), (r0, 0, 0, .ref pa)]) [0, 1] rfl rfl (M1 := []) [] rfl rfl (I1 := [([(0, 0), (0, 1), (0, 2), (0, 3)], jOw (dC, dI) G0 0 r0 s.heap)]) [0] rfl rfl).more hb_35)
    clear hh_1 ht_3 hvm_3 hz_3 hk_3 hS_3 hb_31 hb_32 hb_33 hb_34 hb_35
    refine lv_aload_n hx hb dJ5_setLength_d00df_18 rfl (lv_at hl 0 rfl) ?_
    refine j7_read hx hb hown hK (C := RJ4) (T := TJ4) (N := 4) rfl hly_0_3 hlk_79 (hh_3.at 0 rfl) dJ5_setLength_d00df_19 ?_
    refine lv_iload_n hx hb dJ5_setLength_d00df_22 rfl (lv_at hl 1 rfl) ?_
    refine lv_icmp_ge (tgt := 63) hx hb dJ5_setLength_d00df_23 (by decide) (fun c_5 => ?_) (fun c_5 => ?_)
    · skip
      have c_5' : pc.toInt ≥ a1.toInt := jb_ge (rfl) (rfl) c_5
      refine lv_aload_n hx hb dJ5_setLength_d00df_63 rfl (lv_at hl 0 rfl) ?_
      refine j7_read hx hb hown hK (C := RJ4) (T := TJ4) (N := 4) rfl hly_0_3 hlk_79 (hh_3.at 0 rfl) dJ5_setLength_d00df_64 ?_
      refine lv_iload_n hx hb dJ5_setLength_d00df_67 rfl (lv_at hl 1 rfl) ?_
      refine lv_icmp_le (tgt := 76) hx hb dJ5_setLength_d00df_68 (by decide) (fun c_6 => ?_) (fun c_6 => ?_)
      · skip
        have c_6' : pc.toInt ≤ a1.toInt := jb_le (rfl) (rfl) c_6
        refine lv_aload_n hx hb dJ5_setLength_d00df_76 rfl (lv_at hl 0 rfl) ?_
        refine lv_iload_n hx hb dJ5_setLength_d00df_77 rfl (lv_at hl 1 rfl) ?_
        have hd_8 := hh_3.iv 0 rfl
        have hh_9 := hh_3.sub (L1 := [(r0, 0, 3, .int pc), (r0, 0, 0, .ref pa)]) [0, 1] rfl (M1 := []) [] rfl (I1 := []) [] rfl
        clear hh_3
        refine j7_putX hx hb hown hK hh_9 hB hAp hB0 (C := RJ4) (T := TJ4) (N := 4) rfl (by decide) hg_r0 (i := 3) (by decide) hly_0_3 rfl hlk_79 rfl (ty := .int) (v := .int a1) (by decide +kernel) rfl rfl (⟨_, rfl, by omega, by omega⟩) rfl (L1 := [(r0, 0, 0, .ref pa)]) [1] rfl rfl rfl dJ5_setLength_d00df_78 (fun H_7 locs_7 hr_7 hh_7 => ?_)
        clear hh_9
        have hd_8n := jOw.put hd_8 hr_7
        have hh_10 := hh_7.addI (jOw.ie (dC := dC) (dI := dI) (G0 := G0) (k := 0) (r := r0) (H0 := s.heap) (F := [(0, 0), (0, 1), (0, 2), (0, 3)]) (C := RJ4) (T := TJ4) (N := 4) rfl (by decide) hh_7.2.2.2.2.1 (hd_8n))
        clear hh_7
        clear hd_8 hd_8n hr_7
        rw [hQ]
        exact W.vret hx hb hr (fun t ht hW => ⟨⟨a1, rfl, by (try dsimp only); first | omega | rfl | assumption | decide | exact Or.inl rfl | exact Or.inr rfl | (simp only; omega), ⟨hh_10.rt (M1 := [(r0, 0, 3, .int a1)]) [0] rfl ht, by rw [ht]; exact hh_10.iv 0 rfl⟩⟩, by rw [ht]; try exact hh_10.1.1, fun q h9 hq => by rw [ht]; try exact hh_10.1.2.1 q h9 hq⟩) hh_10.1.2.2 dJ5_setLength_d00df_81
      · skip
        have c_6' : pc.toInt > a1.toInt := jb_le_n (rfl) (rfl) c_6
        refine lv_aload_n hx hb dJ5_setLength_d00df_71 rfl (lv_at hl 0 rfl) ?_
        refine lv_iconst (v := 1) hx hb dJ5_setLength_d00df_72 (by decide) ?_
        have hd_12 := hh_3.iv 0 rfl
        have hh_13 := hh_3.sub (L1 := [(r0, 0, 3, .int pc), (r0, 0, 0, .ref pa)]) [0, 1] rfl (M1 := []) [] rfl (I1 := []) [] rfl
        clear hh_3
        refine j7_putX hx hb hown hK hh_13 hB hAp hB0 (C := RJ4) (T := TJ4) (N := 4) rfl (by decide) hg_r0 (i := 2) (by decide) hly_0_2 rfl hlk_73 rfl (ty := .boolean) (v := .int 1) (by decide +kernel) (jb_nz (Or.inr rfl)) (jb_fz (Or.inr rfl)) (⟨_, rfl, (Or.inr rfl)⟩) rfl (L1 := [(r0, 0, 3, .int pc), (r0, 0, 0, .ref pa)]) [0, 1] rfl rfl rfl dJ5_setLength_d00df_73 (fun H_11 locs_11 hr_11 hh_11 => ?_)
        clear hh_13
        have hd_12n := jOw.put hd_12 hr_11
        have hh_14 := hh_11.addI (jOw.ie (dC := dC) (dI := dI) (G0 := G0) (k := 0) (r := r0) (H0 := s.heap) (F := [(0, 0), (0, 1), (0, 2), (0, 3)]) (C := RJ4) (T := TJ4) (N := 4) rfl (by decide) hh_11.2.2.2.2.1 (hd_12n))
        clear hh_11
        clear hd_12 hd_12n hr_11
        refine lv_aload_n hx hb dJ5_setLength_d00df_76 rfl (lv_at hl 0 rfl) ?_
        refine lv_iload_n hx hb dJ5_setLength_d00df_77 rfl (lv_at hl 1 rfl) ?_
        have hd_16 := hh_14.iv 0 rfl
        have hh_17 := hh_14.sub (L1 := [(r0, 0, 2, .int 1), (r0, 0, 3, .int pc), (r0, 0, 0, .ref pa)]) [0, 1, 2] rfl (M1 := []) [] rfl (I1 := []) [] rfl
        clear hh_14
        refine j7_putX hx hb hown hK hh_17 hB hAp hB0 (C := RJ4) (T := TJ4) (N := 4) rfl (by decide) hg_r0 (i := 3) (by decide) hly_0_3 rfl hlk_79 rfl (ty := .int) (v := .int a1) (by decide +kernel) rfl rfl (⟨_, rfl, by omega, by omega⟩) rfl (L1 := [(r0, 0, 2, .int 1), (r0, 0, 0, .ref pa)]) [0, 2] rfl rfl rfl dJ5_setLength_d00df_78 (fun H_15 locs_15 hr_15 hh_15 => ?_)
        clear hh_17
        have hd_16n := jOw.put hd_16 hr_15
        have hh_18 := hh_15.addI (jOw.ie (dC := dC) (dI := dI) (G0 := G0) (k := 0) (r := r0) (H0 := s.heap) (F := [(0, 0), (0, 1), (0, 2), (0, 3)]) (C := RJ4) (T := TJ4) (N := 4) rfl (by decide) hh_15.2.2.2.2.1 (hd_16n))
        clear hh_15
        clear hd_16 hd_16n hr_15
        rw [hQ]
        exact W.vret hx hb hr (fun t ht hW => ⟨⟨a1, rfl, by (try dsimp only); first | omega | rfl | assumption | decide | exact Or.inl rfl | exact Or.inr rfl | (simp only; omega), ⟨hh_18.rt (M1 := [(r0, 0, 3, .int a1)]) [0] rfl ht, by rw [ht]; exact hh_18.iv 0 rfl⟩⟩, by rw [ht]; try exact hh_18.1.1, fun q h9 hq => by rw [ht]; try exact hh_18.1.2.1 q h9 hq⟩) hh_18.1.2.2 dJ5_setLength_d00df_81
    · skip
      have c_5' : pc.toInt < a1.toInt := jb_ge_n (rfl) (rfl) c_5
      exact absurd c_5' (by omega)
  · skip
    have c_2' : a1.toInt < 0 := jb_ge_n (rfl) ((by decide)) c_2
    exact absurd c_2' (by omega)
set_option maxHeartbeats 4000000 in
set_option maxRecDepth 20000 in
theorem uJ4_setLength_d00df (l : Launch) (dC : Nat → ClassId) (dI : Nat → Nat → Nat) (ca : Nat → ClassId) (base : Nat) (B : jF) (hB : jBok B) (hAp : jAp (dC, dI)) (hB0 : ∀ n G a H, B 0 n G a H ↔ jOb (dC, dI) 0 4 (Fz0 n G) a H) (hB196 : ∀ n G a H, B 196 n G a H ↔ jAr (dC, dI) (ca 0) (fun j z => jBf j z) n a H) (G0 : jT) (H0 : Heap) (r0 : Nat) (a1 : Int32) (pc : Int32) (pa : Nat) (n_pa : Nat) : Met l yJ4_setLength_d00df (jw yJ4_setLength_d00df cJ4_setLength_d00df 2 none) ({ frames := 5, cells := 0, slots := 0, locals := 123 }) (va_Pc [.ref r0, .int a1] (fun U => U.heap = H0 ∧ jX B base G0 [] H0 ∧ jG dC dI ca base U ∧ G0 r0 = some (0, 0) ∧ G0 pa = some (196, n_pa) ∧ jP (dC, dI) G0 H0 [(r0, 0, 3, .int pc), (r0, 0, 0, .ref pa)] ∧ a1.toInt = 0 ∧ 0 ≤ pc.toInt ∧ n_pa ≤ 1000)) (va_Qv (S := Int32) (fun u => u.toInt = 0) (fun u t => (jRt (dC, dI) B base G0 EJ4_setLength_d00df H0 [(r0, 0, 3, .int u)] t.heap) ∧ jOw (dC, dI) G0 0 r0 H0 t.heap) (jA base)) 0 0 (jA base) := by
  refine Met.ofW (cc := cJ4_setLength_d00df) (maxL := 2) (ret := none) (by decide) rfl ?_
  intro p e s m args below meth c s₁ Bd hml hv
  obtain ⟨rfl, hH0, hX, hG, hg_r0, hg_pa, hP0, hp0, hp1, hp2⟩ := hv
  have hK := hG.1
  have hx := Bd.exec
  have hb := Bd.bytes
  have hr := Bd.returns
  have hts := atoms_spec (ws := (jw yJ4_setLength_d00df cJ4_setLength_d00df 2 none)) Bd.pre
  have htw : ∀ w ∈ jWl, w.before _ s = true := fun w h => hts w (List.mem_cons_of_mem _ h)
  have hown : s.vm.findClass RJ4 = some m.cls := findClass_of_methodNamed Bd.named
  have hlocks := Bd.notSynchronized
  obtain ⟨Q, hQ⟩ : ∃ Q, Q = MQ below (va_Qv (S := Int32) (fun u => u.toInt = 0) (fun u t => (jRt (dC, dI) B base G0 EJ4_setLength_d00df H0 [(r0, 0, 3, .int u)] t.heap) ∧ jOw (dC, dI) G0 0 r0 H0 t.heap) (jA base)) ([.ref r0, .int a1] : List Value).toArray s 0 0 (jA base) := ⟨_, rfl⟩
  rw [← hQ]
  have hl := lv_entry ([.ref r0, .int a1]) (n := 2) (Nat.le_of_ble_eq_true rfl)
  rw [lg_entry_eq]
  generalize (lg_sl ([.ref r0, .int a1]) ++ List.replicate (2 - (lg_sl ([.ref r0, .int a1])).length) Slot.unset).toArray = ls at hl ⊢
  have hl : lv_has ls 2 [(0, .ref r0), (1, .int a1)] := hl
  generalize hR : (headSpec (jw yJ4_setLength_d00df cJ4_setLength_d00df 2 none) ({ frames := 5, cells := 0, slots := 0, locals := 123 })).room = R
  subst hH0
  have hh : jSt (dC, dI) B base G0 G0 EJ4_setLength_d00df s.heap 0 0 [(r0, 0, 3, .int pc), (r0, 0, 0, .ref pa)] [] [] s.heap [] := jSt.start hX hP0 jMc.nil jIs.nil
  clear hX hP0
  have hk0 : (0 : Int32).toInt = 0 := by decide
  have hk1 : (1 : Int32).toInt = 1 := by decide
  have hrg_a1 := jb_rng a1
  have hh_1 := hh.addI (jOw.ie (dC := dC) (dI := dI) (G0 := G0) (k := 0) (r := r0) (H0 := s.heap) (F := [(0, 0), (0, 1), (0, 2), (0, 3)]) (C := RJ4) (T := TJ4) (N := 4) rfl (by decide) hh.2.2.2.2.1 (jOw.rf))
  clear hh
  refine lv_aload_n hx hb dJ4_setLength_d00df_0 rfl (lv_at hl 0 rfl) ?_
  refine lv_iload_n hx hb dJ4_setLength_d00df_1 rfl (lv_at hl 1 rfl) ?_
  refine va_callv (A0 := jA base) (H0 := s.heap) (va_runSU (hK.1 0 _ rfl).2 (As := [.int a1]) (rest := []) ⟨hx, hb, hml, hown, hts⟩ (uJ5_setLength_d00df l dC dI ca base B hB hAp hB0 hB196 G0 s.heap r0 a1 pc pa n_pa) (va_cwSU 1 hts (jgU (jWr_45 _ (List.mem_of_getElem? (i := 4) rfl)) (jWr_45 _ (List.mem_of_getElem? (i := 5) rfl)) (jWr_45 _ (List.mem_of_getElem? (i := 6) rfl)) (jWr_45 _ (List.mem_of_getElem? (i := 7) rfl)) (jWr_13 _ (List.mem_of_getElem? (i := 7) rfl)) (jWr_45 _ (List.mem_of_getElem? (i := 8) rfl))) rfl rfl rfl (by decide +kernel) ⟨by rw [← hR]; exact Nat.le_of_ble_eq_true rfl, by rw [← hR]; exact Nat.le_of_ble_eq_true rfl⟩) ⟨fun a U g mk q => by obtain ⟨q0, q1, q2, qK, q10, q11, q12, q13⟩ := q; exact ⟨q0, q1, q2, jG.calling g mk a qK, q10, q11, q12, q13⟩, hh_1.recv (C := RJ4) (T := TJ4) (N := 4) hB0 rfl (by decide) hg_r0 hK, fun U hU hW => ⟨rfl, hU, hh_1.2.1, hG.step hW hU hh_1.1, hg_r0, hg_pa, (hh_1.2.2.1.sub (L1 := [(r0, 0, 3, .int pc), (r0, 0, 0, .ref pa)]) [0, 1] rfl), by first | omega | (refine ⟨?_, ?_, ?_⟩ <;> (first | omega | rfl | assumption | decide | exact Or.inl rfl | exact Or.inr rfl | (simp only; omega)))⟩⟩ rfl rfl hl.1 rfl (lv_room (Nat.le_of_ble_eq_true rfl)) dJ4_setLength_d00df_2 ⟨Nat.zero_le _, Nat.zero_le _⟩) hh_1.1 (fun q _ h => h) (fun q h => h) (fun u_2 t_2 H_2 locs_2 ht_2 hvm_2 hr_3 hb_2 hz_2 hk_2 hS_2 => ?_)
  obtain ⟨qc_2, rfl⟩ : ∃ z, z = u_2 := ⟨_, rfl⟩
  rw [ht_2] at hb_2
  obtain ⟨hb_2, hbO_2⟩ := hb_2
  obtain ⟨hb_21, hb_22, hb_23, hb_24, hb_25⟩ := hb_2
  have hh_2 : jSt (dC, dI) B base G0 G0 EJ4_setLength_d00df s.heap 0 0 [(r0, 0, 3, .int qc_2), (r0, 0, 0, .ref pa)] [] [] H_2 locs_2 := ((hh_1.call hb_21 hb_22 hb_23 hb_24 hS_2 rfl (L1 := [(r0, 0, 0, .ref pa)]) [1] rfl rfl (M1 := []) [] rfl rfl (I1 := []) [] rfl rfl).more hb_25)
  have hd_4 := jOw.tr (hh_1.iv 0 rfl) hh_1.2.2.2.2.1 hbO_2
  have hh_5 := hh_2.addI (jOw.ie (dC := dC) (dI := dI) (G0 := G0) (k := 0) (r := r0) (H0 := s.heap) (F := [(0, 0), (0, 1), (0, 2), (0, 3)]) (C := RJ4) (T := TJ4) (N := 4) rfl (by decide) hh_2.2.2.2.2.1 (hd_4))
  clear hh_2
  clear hh_1 ht_2 hvm_2 hz_2 hk_2 hS_2 hb_21 hb_22 hb_23 hb_24 hb_25
  rw [hQ]
  exact W.vret hx hb hr (fun t ht hW => ⟨⟨qc_2, rfl, by (try dsimp only); first | omega | rfl | assumption | decide | exact Or.inl rfl | exact Or.inr rfl | (simp only; omega), ⟨hh_5.rt (M1 := [(r0, 0, 3, .int qc_2)]) [0] rfl ht, by rw [ht]; exact hh_5.iv 0 rfl⟩⟩, by rw [ht]; try exact hh_5.1.1, fun q h9 hq => by rw [ht]; try exact hh_5.1.2.1 q h9 hq⟩) hh_5.1.2.2 dJ4_setLength_d00df_5
set_option maxHeartbeats 4000000 in
set_option maxRecDepth 20000 in
theorem uJ5_append_3fe6f (l : Launch) (dC : Nat → ClassId) (dI : Nat → Nat → Nat) (ca : Nat → ClassId) (base : Nat) (B : jF) (hB : jBok B) (hAp : jAp (dC, dI)) (hB0 : ∀ n G a H, B 0 n G a H ↔ jOb (dC, dI) 0 4 (Fz0 n G) a H) (hB196 : ∀ n G a H, B 196 n G a H ↔ jAr (dC, dI) (ca 0) (fun j z => jBf j z) n a H) (G0 : jT) (H0 : Heap) (r0 : Nat) (a1 : Int32) (pc : Int32) (pa : Nat) (n_pa : Nat) : Met l yJ5_append_3fe6f (jw yJ5_append_3fe6f cJ5_append_3fe6f 2 (some (.object "java/lang/AbstractStringBuilder"))) ({ frames := 4, cells := 0, slots := 0, locals := 102 }) (va_Pc [.ref r0, .int a1] (fun U => U.heap = H0 ∧ jX B base G0 [] H0 ∧ jG dC dI ca base U ∧ G0 r0 = some (0, 0) ∧ G0 pa = some (196, n_pa) ∧ jP (dC, dI) G0 H0 [(r0, 0, 3, .int pc), (r0, 0, 0, .ref pa)] ∧ 0 ≤ pc.toInt ∧ pc.toInt + 1 ≤ n_pa ∧ n_pa ≤ 1000 ∧ 0 ≤ a1.toInt ∧ a1.toInt ≤ 255)) (jQx (S := Int32) (fun v u => jRf G0 0 0 v) (fun u t => jRt (dC, dI) B base G0 EJ5_append_3fe6f H0 [(r0, 0, 3, .int u)] t.heap) (jA base)) 0 0 (jA base) := by
  refine Met.ofW (cc := cJ5_append_3fe6f) (maxL := 2) (ret := (some (.object "java/lang/AbstractStringBuilder"))) (by decide) rfl ?_
  intro p e s m args below meth c s₁ Bd hml hv
  obtain ⟨rfl, hH0, hX, hG, hg_r0, hg_pa, hP0, hp0, hp1, hp2, hp3, hp4⟩ := hv
  have hK := hG.1
  have hx := Bd.exec
  have hb := Bd.bytes
  have hr := Bd.returns
  have hts := atoms_spec (ws := (jw yJ5_append_3fe6f cJ5_append_3fe6f 2 (some (.object "java/lang/AbstractStringBuilder")))) Bd.pre
  have htw : ∀ w ∈ jWl, w.before _ s = true := fun w h => hts w (List.mem_cons_of_mem _ h)
  have hown : s.vm.findClass RJ5 = some m.cls := findClass_of_methodNamed Bd.named
  have hlocks := Bd.notSynchronized
  obtain ⟨Q, hQ⟩ : ∃ Q, Q = MQ below (jQx (S := Int32) (fun v u => jRf G0 0 0 v) (fun u t => jRt (dC, dI) B base G0 EJ5_append_3fe6f H0 [(r0, 0, 3, .int u)] t.heap) (jA base)) ([.ref r0, .int a1] : List Value).toArray s 0 0 (jA base) := ⟨_, rfl⟩
  rw [← hQ]
  have hl := lv_entry ([.ref r0, .int a1]) (n := 2) (Nat.le_of_ble_eq_true rfl)
  rw [lg_entry_eq]
  generalize (lg_sl ([.ref r0, .int a1]) ++ List.replicate (2 - (lg_sl ([.ref r0, .int a1])).length) Slot.unset).toArray = ls at hl ⊢
  have hl : lv_has ls 2 [(0, .ref r0), (1, .int a1)] := hl
  generalize hR : (headSpec (jw yJ5_append_3fe6f cJ5_append_3fe6f 2 (some (.object "java/lang/AbstractStringBuilder"))) ({ frames := 4, cells := 0, slots := 0, locals := 102 })).room = R
  subst hH0
  have hh : jSt (dC, dI) B base G0 G0 EJ5_append_3fe6f s.heap 0 0 [(r0, 0, 3, .int pc), (r0, 0, 0, .ref pa)] [] [] s.heap [] := jSt.start hX hP0 jMc.nil jIs.nil
  clear hX hP0
  have hk0 : (0 : Int32).toInt = 0 := by decide
  have hk1 : (1 : Int32).toInt = 1 := by decide
  have hly_0_0 := htw (u_lay RJ4 TJ4 0) (jWc_wsJ40 _ (u_in_lay (by decide)))
  have hly_0_3 := htw (u_lay RJ4 TJ4 3) (jWc_wsJ40 _ (u_in_lay (by decide)))
  have hlk_79 := (htw (.fieldLink RJ5 79 "java/lang/AbstractStringBuilder" "count" "I") (jWr_45 _ (List.mem_of_getElem? (i := 9) rfl)))
  have hlk_15 := (htw (.fieldLink RJ5 15 "java/lang/AbstractStringBuilder" "value" "[B") (jWr_13 _ (List.mem_of_getElem? (i := 11) rfl)))
  have hrg_a1 := jb_rng a1
  refine lv_aload_n hx hb dJ5_append_3fe6f_0 rfl (lv_at hl 0 rfl) ?_
  refine lv_aload_n hx hb dJ5_append_3fe6f_1 rfl (lv_at hl 0 rfl) ?_
  refine j7_read hx hb hown hK (C := RJ4) (T := TJ4) (N := 4) rfl hly_0_3 hlk_79 (hh.at 0 rfl) dJ5_append_3fe6f_2 ?_
  refine lv_iconst (v := 1) hx hb dJ5_append_3fe6f_5 (by decide) ?_
  refine lv_iadd hx hb dJ5_append_3fe6f_6 ?_
  refine lv_topi (fun z_1 ez_1 => ?_)
  have hz_1 : z_1.toInt = pc.toInt + 1 := by rw [ez_1]; exact jb_iadd2 (rfl) ((by decide)) (by omega)
  refine va_callv (A0 := jA base) (H0 := s.heap) (va_runU (As := [.int z_1]) (rest := []) ⟨hx, hb, hml, hown, hts⟩ (uJ5_ensureCapacityInternal_d00df l dC dI ca base B hB hAp hB0 hB196 G0 s.heap r0 z_1 pc pa n_pa) (va_cwU 1 hts (jgX (jWr_45 _ (List.mem_of_getElem? (i := 11) rfl)) (jWr_45 _ (List.mem_of_getElem? (i := 12) rfl)) (jWr_45 _ (List.mem_of_getElem? (i := 13) rfl)) (jWr_45 _ (List.mem_of_getElem? (i := 14) rfl)) (jWr_13 _ (List.mem_of_getElem? (i := 7) rfl)) (jWr_45 _ (List.mem_of_getElem? (i := 15) rfl))) rfl rfl rfl rfl (by decide +kernel) ⟨by rw [← hR]; exact Nat.le_of_ble_eq_true rfl, by rw [← hR]; exact Nat.le_of_ble_eq_true rfl⟩) ⟨fun a U g mk q => by obtain ⟨q0, q1, q2, qK, q10, q11, q12, q13⟩ := q; exact ⟨q0, q1, q2, jG.calling g mk a qK, q10, q11, q12, q13⟩, hh.recv (C := RJ4) (T := TJ4) (N := 4) hB0 rfl (by decide) hg_r0 hK, fun U hU hW => ⟨rfl, hU, hh.2.1, hG.step hW hU hh.1, hg_r0, hg_pa, (hh.2.2.1.sub (L1 := [(r0, 0, 3, .int pc), (r0, 0, 0, .ref pa)]) [0, 1] rfl), by first | omega | (refine ⟨?_, ?_, ?_⟩ <;> (first | omega | rfl | assumption | decide | exact Or.inl rfl | exact Or.inr rfl | (simp only; omega)))⟩⟩ rfl rfl hl.1 rfl (lv_room (Nat.le_of_ble_eq_true rfl)) dJ5_append_3fe6f_7 ⟨Nat.zero_le _, Nat.zero_le _⟩) hh.1 (fun q _ h => h) (fun q h => h) (fun u_2 t_2 H_2 locs_2 ht_2 hvm_2 hr_3 hb_2 hz_2 hk_2 hS_2 => ?_)
  rw [ht_2] at hb_2
  obtain ⟨hb_21, hb_22, hb_23, hb_24, hb_25⟩ := hb_2
  have hh_2 : jSt (dC, dI) B base G0 G0 EJ5_append_3fe6f s.heap 0 0 [(r0, 0, 3, .int pc), (r0, 0, 0, .ref pa)] [] [] H_2 locs_2 := ((hh.call hb_21 hb_22 hb_23 hb_24 hS_2 rfl (L1 := [(r0, 0, 3, .int pc), (r0, 0, 0, .ref pa)]) [0, 1] rfl rfl (M1 := []) [] rfl rfl (I1 := []) [] rfl rfl).more hb_25)
  clear hh ht_2 hvm_2 hz_2 hk_2 hS_2 hb_21 hb_22 hb_23 hb_24 hb_25
  refine lv_aload_n hx hb dJ5_append_3fe6f_10 rfl (lv_at hl 0 rfl) ?_
  refine va_calli (A0 := jA base) (H0 := s.heap) (va_runU (As := []) (rest := []) ⟨hx, hb, hml, hown, hts⟩ (uJ5_isLatin1_aae02 l dC dI ca base B hB hAp hB0 G0 H_2 r0) (va_cwU 0 hts (jgX (jWr_46 _ (List.mem_of_getElem? (i := 0) rfl)) (jWr_46 _ (List.mem_of_getElem? (i := 1) rfl)) (jWr_46 _ (List.mem_of_getElem? (i := 2) rfl)) (jWr_46 _ (List.mem_of_getElem? (i := 3) rfl)) (jWr_13 _ (List.mem_of_getElem? (i := 7) rfl)) (jWr_46 _ (List.mem_of_getElem? (i := 4) rfl))) rfl rfl rfl rfl (by decide +kernel) ⟨by rw [← hR]; exact Nat.le_of_ble_eq_true rfl, by rw [← hR]; exact Nat.le_of_ble_eq_true rfl⟩) ⟨fun a U g mk q => by obtain ⟨q0, q1, q2, qK, q10, q11, q12⟩ := q; exact ⟨q0, q1, q2, jG.calling g mk a qK, q10, q11, q12⟩, hh_2.recv (C := RJ4) (T := TJ4) (N := 4) hB0 rfl (by decide) hg_r0 hK, fun U hU hW => ⟨rfl, hU, hh_2.2.1, hG.step hW hU hh_2.1, hg_r0, jP.nil, trivial⟩⟩ rfl rfl hl.1 rfl (lv_room (Nat.le_of_ble_eq_true rfl)) dJ5_append_3fe6f_11 ⟨Nat.zero_le _, Nat.zero_le _⟩) hh_2.1 (fun q _ h => h) (fun q h => h) (fun r_5 u_4 t_4 H_4 locs_4 ht_4 hvm_4 hr_5 hb_4 hz_4 hk_4 hS_4 => ?_)
  rw [ht_4] at hb_4
  obtain ⟨hb_41, hb_42, hb_43, hb_44, hb_45⟩ := hb_4
  have hh_4 : jSt (dC, dI) B base G0 G0 EJ5_append_3fe6f s.heap 0 0 [(r0, 0, 3, .int pc), (r0, 0, 0, .ref pa)] [] [] H_4 locs_4 := ((hh_2.call hb_41 hb_42 hb_43 hb_44 hS_4 rfl (L1 := [(r0, 0, 3, .int pc), (r0, 0, 0, .ref pa)]) [0, 1] rfl rfl (M1 := []) [] rfl rfl (I1 := []) [] rfl rfl).more hb_45)
  clear hh_2 ht_4 hvm_4 hz_4 hk_4 hS_4 hb_41 hb_42 hb_43 hb_44 hb_45
  obtain ⟨hr_5b, hr_5p⟩ := hr_5
  have hr_5' := jb_01 hr_5b
  refine lv_if_eq (tgt := 45) hx hb dJ5_append_3fe6f_14 (by decide) (fun c_6 => ?_) (fun c_6 => ?_)
  · skip
    have c_6' : r_5.toInt = 0 := jb_eq (rfl) ((by decide)) c_6
    exact absurd c_6' (by omega)
  · skip
    have c_6' : r_5.toInt ≠ 0 := jb_eq_n (rfl) ((by decide)) c_6
    refine lv_iload_n hx hb dJ5_append_3fe6f_17 rfl (lv_at hl 1 rfl) ?_
    refine va_calli (A0 := jA base) (H0 := s.heap) (va_runS (As := [.int a1]) (rest := []) ⟨hx, hb, hml, hown, hts⟩ (uJ1_canEncode_fc78dK l dC dI ca base B hB hAp G0 H_4 a1) (va_cwS 1 hts (jgS (jWr_47 _ (List.mem_of_getElem? (i := 2) rfl)) (jWr_47 _ (List.mem_of_getElem? (i := 3) rfl)) (jWr_6 _ (List.mem_of_getElem? (i := 10) rfl)) (jWr_47 _ (List.mem_of_getElem? (i := 4) rfl))) rfl rfl rfl (by decide +kernel) ⟨by rw [← hR]; exact Nat.le_of_ble_eq_true rfl, by rw [← hR]; exact Nat.le_of_ble_eq_true rfl⟩) ⟨fun a U g mk q => by obtain ⟨q0, q1, q2, qK, q10, q11⟩ := q; exact ⟨q0, q1, q2, jG.calling g mk a qK, q10, q11⟩, fun U hU hW => ⟨rfl, hU, hh_4.2.1, hG.step hW hU hh_4.1, jP.nil, by first | omega | (refine ⟨?_, ?_⟩ <;> (first | omega | rfl | assumption | decide | exact Or.inl rfl | exact Or.inr rfl | (simp only; omega)))⟩⟩ rfl rfl hl.1 rfl (lv_room (Nat.le_of_ble_eq_true rfl)) dJ5_append_3fe6f_18 ⟨Nat.zero_le _, Nat.zero_le _⟩) hh_4.1 (fun q _ h => h) (fun q h => h) (fun r_8 u_7 t_7 H_7 locs_7 ht_7 hvm_7 hr_8 hb_7 hz_7 hk_7 hS_7 => ?_)
    rw [ht_7] at hb_7
    obtain ⟨hb_71, hb_72, hb_73, hb_74, hb_75⟩ := hb_7
    have hh_7 : jSt (dC, dI) B base G0 G0 EJ5_append_3fe6f s.heap 0 0 [(r0, 0, 3, .int pc), (r0, 0, 0, .ref pa)] [] [] H_7 locs_7 := ((hh_4.call hb_71 hb_72 hb_73 hb_74 hS_7 rfl (L1 := [(r0, 0, 3, .int pc), (r0, 0, 0, .ref pa)]) [0, 1] rfl rfl (M1 := []) [] rfl rfl (I1 := []) [] rfl rfl).more hb_75)
    clear hh_4 ht_7 hvm_7 hz_7 hk_7 hS_7 hb_71 hb_72 hb_73 hb_74 hb_75
    obtain ⟨hr_8b, hr_8p⟩ := hr_8
    have hr_8' := jb_01 hr_8b
    refine lv_if_eq (tgt := 45) hx hb dJ5_append_3fe6f_21 (by decide) (fun c_9 => ?_) (fun c_9 => ?_)
    · skip
      have c_9' : r_8.toInt = 0 := jb_eq (rfl) ((by decide)) c_9
      exact absurd c_9' (by omega)
    · skip
      have c_9' : r_8.toInt ≠ 0 := jb_eq_n (rfl) ((by decide)) c_9
      refine lv_aload_n hx hb dJ5_append_3fe6f_24 rfl (lv_at hl 0 rfl) ?_
      refine j7_read hx hb hown hK (C := RJ4) (T := TJ4) (N := 4) rfl hly_0_0 hlk_15 (hh_7.at 1 rfl) dJ5_append_3fe6f_25 ?_
      refine lv_aload_n hx hb dJ5_append_3fe6f_28 rfl (lv_at hl 0 rfl) ?_
      refine lv_dup hx hb dJ5_append_3fe6f_29 rfl ?_
      refine j7_read hx hb hown hK (C := RJ4) (T := TJ4) (N := 4) rfl hly_0_3 hlk_79 (hh_7.at 0 rfl) dJ5_append_3fe6f_30 ?_
      refine lv_dup_x1 hx hb dJ5_append_3fe6f_33 rfl rfl ?_
      refine lv_iconst (v := 1) hx hb dJ5_append_3fe6f_34 (by decide) ?_
      refine lv_iadd hx hb dJ5_append_3fe6f_35 ?_
      refine lv_topi (fun z_10 ez_10 => ?_)
      have hz_10 : z_10.toInt = pc.toInt + 1 := by rw [ez_10]; exact jb_iadd2 (rfl) ((by decide)) (by omega)
      refine j7_put hx hb hown hK hh_7 hB hAp hB0 (C := RJ4) (T := TJ4) (N := 4) rfl (by decide) hg_r0 (i := 3) (by decide) hly_0_3 rfl hlk_79 rfl (ty := .int) (v := .int z_10) (by decide +kernel) rfl rfl (⟨_, rfl, by omega, by omega⟩) rfl (L1 := [(r0, 0, 0, .ref pa)]) [1] rfl rfl rfl dJ5_append_3fe6f_36 (fun H_11 locs_11 hh_11 => ?_)
      clear hh_7
      refine lv_iload_n hx hb dJ5_append_3fe6f_39 rfl (lv_at hl 1 rfl) ?_
      refine lv_i2b hx hb dJ5_append_3fe6f_40 rfl ?_
      refine lv_topi (fun z_12 ez_12 => ?_)
      refine j7_bastF hx hb hK hh_11 hB hB196 0 rfl (by decide) (by decide) rfl rfl rfl hg_pa (x := pc.toInt) (rfl) (by omega) dJ5_append_3fe6f_41 (fun H_13 locs_13 hh_13 => ?_)
      clear hh_11
      refine lv_goto (tgt := 75) hx hb dJ5_append_3fe6f_42 (by decide) ?_
      refine lv_aload_n hx hb dJ5_append_3fe6f_75 rfl (lv_at hl 0 rfl) ?_
      rw [hQ]
      exact W.aret (v := .ref r0) hx hb hr (Or.inl ⟨_, rfl⟩) (Or.inr ⟨_, rfl⟩) (fun t ht hW => ⟨⟨.ref r0, z_10, rfl, ⟨_, rfl, hg_r0⟩, hh_13.rt (M1 := [(r0, 0, 3, .int z_10)]) [0] rfl ht⟩, by rw [ht]; try exact hh_13.1.1, fun q h9 hq => by rw [ht]; try exact hh_13.1.2.1 q h9 hq⟩) hh_13.1.2.2 dJ5_append_3fe6f_76
set_option maxHeartbeats 4000000 in
set_option maxRecDepth 20000 in
theorem uJ4_append_cf468 (l : Launch) (dC : Nat → ClassId) (dI : Nat → Nat → Nat) (ca : Nat → ClassId) (base : Nat) (B : jF) (hB : jBok B) (hAp : jAp (dC, dI)) (hB0 : ∀ n G a H, B 0 n G a H ↔ jOb (dC, dI) 0 4 (Fz0 n G) a H) (hB196 : ∀ n G a H, B 196 n G a H ↔ jAr (dC, dI) (ca 0) (fun j z => jBf j z) n a H) (G0 : jT) (H0 : Heap) (r0 : Nat) (a1 : Int32) (pc : Int32) (pa : Nat) (n_pa : Nat) : Met l yJ4_append_cf468 (jw yJ4_append_cf468 cJ4_append_cf468 2 (some (.object "java/lang/StringBuilder"))) ({ frames := 5, cells := 0, slots := 0, locals := 123 }) (va_Pc [.ref r0, .int a1] (fun U => U.heap = H0 ∧ jX B base G0 [] H0 ∧ jG dC dI ca base U ∧ G0 r0 = some (0, 0) ∧ G0 pa = some (196, n_pa) ∧ jP (dC, dI) G0 H0 [(r0, 0, 3, .int pc), (r0, 0, 0, .ref pa)] ∧ 0 ≤ pc.toInt ∧ pc.toInt + 1 ≤ n_pa ∧ n_pa ≤ 1000 ∧ 0 ≤ a1.toInt ∧ a1.toInt ≤ 255)) (jQx (S := Int32) (fun v u => jRf G0 0 0 v) (fun u t => jRt (dC, dI) B base G0 EJ4_append_cf468 H0 [(r0, 0, 3, .int u)] t.heap) (jA base)) 0 0 (jA base) := by
  refine Met.ofW (cc := cJ4_append_cf468) (maxL := 2) (ret := (some (.object "java/lang/StringBuilder"))) (by decide) rfl ?_
  intro p e s m args below meth c s₁ Bd hml hv
  obtain ⟨rfl, hH0, hX, hG, hg_r0, hg_pa, hP0, hp0, hp1, hp2, hp3, hp4⟩ := hv
  have hK := hG.1
  have hx := Bd.exec
  have hb := Bd.bytes
  have hr := Bd.returns
  have hts := atoms_spec (ws := (jw yJ4_append_cf468 cJ4_append_cf468 2 (some (.object "java/lang/StringBuilder")))) Bd.pre
  have htw : ∀ w ∈ jWl, w.before _ s = true := fun w h => hts w (List.mem_cons_of_mem _ h)
  have hown : s.vm.findClass RJ4 = some m.cls := findClass_of_methodNamed Bd.named
  have hlocks := Bd.notSynchronized
  obtain ⟨Q, hQ⟩ : ∃ Q, Q = MQ below (jQx (S := Int32) (fun v u => jRf G0 0 0 v) (fun u t => jRt (dC, dI) B base G0 EJ4_append_cf468 H0 [(r0, 0, 3, .int u)] t.heap) (jA base)) ([.ref r0, .int a1] : List Value).toArray s 0 0 (jA base) := ⟨_, rfl⟩
  rw [← hQ]
  have hl := lv_entry ([.ref r0, .int a1]) (n := 2) (Nat.le_of_ble_eq_true rfl)
  rw [lg_entry_eq]
  generalize (lg_sl ([.ref r0, .int a1]) ++ List.replicate (2 - (lg_sl ([.ref r0, .int a1])).length) Slot.unset).toArray = ls at hl ⊢
  have hl : lv_has ls 2 [(0, .ref r0), (1, .int a1)] := hl
  generalize hR : (headSpec (jw yJ4_append_cf468 cJ4_append_cf468 2 (some (.object "java/lang/StringBuilder"))) ({ frames := 5, cells := 0, slots := 0, locals := 123 })).room = R
  subst hH0
  have hh : jSt (dC, dI) B base G0 G0 EJ4_append_cf468 s.heap 0 0 [(r0, 0, 3, .int pc), (r0, 0, 0, .ref pa)] [] [] s.heap [] := jSt.start hX hP0 jMc.nil jIs.nil
  clear hX hP0
  have hk0 : (0 : Int32).toInt = 0 := by decide
  have hk1 : (1 : Int32).toInt = 1 := by decide
  have hrg_a1 := jb_rng a1
  refine lv_aload_n hx hb dJ4_append_cf468_0 rfl (lv_at hl 0 rfl) ?_
  refine lv_iload_n hx hb dJ4_append_cf468_1 rfl (lv_at hl 1 rfl) ?_
  refine j_callx (A0 := jA base) (H0 := s.heap) (va_runSU (hK.1 0 _ rfl).2 (As := [.int a1]) (rest := []) ⟨hx, hb, hml, hown, hts⟩ (uJ5_append_3fe6f l dC dI ca base B hB hAp hB0 hB196 G0 s.heap r0 a1 pc pa n_pa) (va_cwSU 1 hts (jgU (jWr_46 _ (List.mem_of_getElem? (i := 22) rfl)) (jWr_46 _ (List.mem_of_getElem? (i := 23) rfl)) (jWr_45 _ (List.mem_of_getElem? (i := 6) rfl)) (jWr_47 _ (List.mem_of_getElem? (i := 0) rfl)) (jWr_13 _ (List.mem_of_getElem? (i := 7) rfl)) (jWr_47 _ (List.mem_of_getElem? (i := 1) rfl))) rfl rfl rfl (by decide +kernel) ⟨by rw [← hR]; exact Nat.le_of_ble_eq_true rfl, by rw [← hR]; exact Nat.le_of_ble_eq_true rfl⟩) ⟨fun a U g mk q => by obtain ⟨q0, q1, q2, qK, q10, q11, q12, q13⟩ := q; exact ⟨q0, q1, q2, jG.calling g mk a qK, q10, q11, q12, q13⟩, hh.recv (C := RJ4) (T := TJ4) (N := 4) hB0 rfl (by decide) hg_r0 hK, fun U hU hW => ⟨rfl, hU, hh.2.1, hG.step hW hU hh.1, hg_r0, hg_pa, (hh.2.2.1.sub (L1 := [(r0, 0, 3, .int pc), (r0, 0, 0, .ref pa)]) [0, 1] rfl), by first | omega | (refine ⟨?_, ?_, ?_, ?_, ?_⟩ <;> (first | omega | rfl | assumption | decide | exact Or.inl rfl | exact Or.inr rfl | (simp only; omega)))⟩⟩ rfl rfl hl.1 rfl (lv_room (Nat.le_of_ble_eq_true rfl)) dJ4_append_cf468_2 ⟨Nat.zero_le _, Nat.zero_le _⟩) hh.1 (fun q _ h => h) (fun q h => h) (fun r_2 u_1 t_1 H_1 locs_1 ht_1 hvm_1 hr_2 hb_1 hz_1 hk_1 hS_1 => ?_)
  obtain ⟨qc_1, rfl⟩ : ∃ z, z = u_1 := ⟨_, rfl⟩
  rw [ht_1] at hb_1
  obtain ⟨hb_11, hb_12, hb_13, hb_14, hb_15⟩ := hb_1
  have hh_1 : jSt (dC, dI) B base G0 G0 EJ4_append_cf468 s.heap 0 0 [(r0, 0, 3, .int qc_1), (r0, 0, 0, .ref pa)] [] [] H_1 locs_1 := ((hh.call hb_11 hb_12 hb_13 hb_14 hS_1 rfl (L1 := [(r0, 0, 0, .ref pa)]) [1] rfl rfl (M1 := []) [] rfl rfl (I1 := []) [] rfl rfl).more hb_15)
  clear hh ht_1 hvm_1 hz_1 hk_1 hS_1 hb_11 hb_12 hb_13 hb_14 hb_15
  obtain ⟨ret_3, rfl, hg_ret_3⟩ := hr_2
  refine lv_pop hx hb dJ4_append_cf468_5 rfl ?_
  refine lv_aload_n hx hb dJ4_append_cf468_6 rfl (lv_at hl 0 rfl) ?_
  rw [hQ]
  exact W.aret (v := .ref r0) hx hb hr (Or.inl ⟨_, rfl⟩) (Or.inr ⟨_, rfl⟩) (fun t ht hW => ⟨⟨.ref r0, qc_1, rfl, ⟨_, rfl, hg_r0⟩, hh_1.rt (M1 := [(r0, 0, 3, .int qc_1)]) [0] rfl ht⟩, by rw [ht]; try exact hh_1.1.1, fun q h9 hq => by rw [ht]; try exact hh_1.1.2.1 q h9 hq⟩) hh_1.1.2.2 dJ4_append_cf468_7
