section
theorem dX14_byteComes_0 : decode cX14_byteComes 0 = .ok (.aload_n 0, 1) := by decide +kernel
theorem dX14_byteComes_1 : decode cX14_byteComes 1 = .ok (.getfield 231, 3) := by decide +kernel
theorem dX14_byteComes_4 : decode cX14_byteComes 4 = .ok (.bipush 6, 2) := by decide +kernel
theorem dX14_byteComes_6 : decode cX14_byteComes 6 = .ok (.if_icmp .ge 32, 3) := by decide +kernel
theorem dX14_byteComes_9 : decode cX14_byteComes 9 = .ok (.aload_n 0, 1) := by decide +kernel
theorem dX14_byteComes_10 : decode cX14_byteComes 10 = .ok (.dup, 1) := by decide +kernel
theorem dX14_byteComes_11 : decode cX14_byteComes 11 = .ok (.getfield 258, 3) := by decide +kernel
theorem dX14_byteComes_14 : decode cX14_byteComes 14 = .ok (.iconst 1, 1) := by decide +kernel
theorem dX14_byteComes_15 : decode cX14_byteComes 15 = .ok (.iadd, 1) := by decide +kernel
theorem dX14_byteComes_16 : decode cX14_byteComes 16 = .ok (.putfield 258, 3) := by decide +kernel
theorem dX14_byteComes_19 : decode cX14_byteComes 19 = .ok (.aload_n 0, 1) := by decide +kernel
theorem dX14_byteComes_20 : decode cX14_byteComes 20 = .ok (.iload_n 1, 1) := by decide +kernel
theorem dX14_byteComes_21 : decode cX14_byteComes 21 = .ok (.invokevirtual 261, 3) := by decide +kernel
theorem dX14_byteComes_24 : decode cX14_byteComes 24 = .ok (.ifCond .ne 44, 3) := by decide +kernel
theorem dX14_byteComes_27 : decode cX14_byteComes 27 = .ok (.aload_n 0, 1) := by decide +kernel
theorem dX14_byteComes_28 : decode cX14_byteComes 28 = .ok (.iconst 1, 1) := by decide +kernel
theorem dX14_byteComes_29 : decode cX14_byteComes 29 = .ok (.putfield 202, 3) := by decide +kernel
theorem dX14_byteComes_32 : decode cX14_byteComes 32 = .ok (.aload_n 0, 1) := by decide +kernel
theorem dX14_byteComes_33 : decode cX14_byteComes 33 = .ok (.iconst 0, 1) := by decide +kernel
theorem dX14_byteComes_34 : decode cX14_byteComes 34 = .ok (.putfield 258, 3) := by decide +kernel
theorem dX14_byteComes_37 : decode cX14_byteComes 37 = .ok (.return_, 1) := by decide +kernel
theorem dX14_byteComes_38 : decode cX14_byteComes 38 = .ok (.aload_n 0, 1) := by decide +kernel
theorem dX14_byteComes_39 : decode cX14_byteComes 39 = .ok (.getfield 20, 3) := by decide +kernel
theorem dX14_byteComes_42 : decode cX14_byteComes 42 = .ok (.aload_n 0, 1) := by decide +kernel
theorem dX14_byteComes_43 : decode cX14_byteComes 43 = .ok (.getfield 244, 3) := by decide +kernel
theorem dX14_byteComes_46 : decode cX14_byteComes 46 = .ok (.iload_n 1, 1) := by decide +kernel
theorem dX14_byteComes_47 : decode cX14_byteComes 47 = .ok (.iastore, 1) := by decide +kernel
theorem dX14_byteComes_48 : decode cX14_byteComes 48 = .ok (.aload_n 0, 1) := by decide +kernel
theorem dX14_byteComes_49 : decode cX14_byteComes 49 = .ok (.dup, 1) := by decide +kernel
theorem dX14_byteComes_50 : decode cX14_byteComes 50 = .ok (.getfield 244, 3) := by decide +kernel
theorem dX14_byteComes_53 : decode cX14_byteComes 53 = .ok (.iconst 1, 1) := by decide +kernel
theorem dX14_byteComes_54 : decode cX14_byteComes 54 = .ok (.iadd, 1) := by decide +kernel
theorem dX14_byteComes_55 : decode cX14_byteComes 55 = .ok (.putfield 244, 3) := by decide +kernel
theorem dX14_byteComes_58 : decode cX14_byteComes 58 = .ok (.aload_n 0, 1) := by decide +kernel
theorem dX14_byteComes_59 : decode cX14_byteComes 59 = .ok (.dup, 1) := by decide +kernel
theorem dX14_byteComes_60 : decode cX14_byteComes 60 = .ok (.getfield 258, 3) := by decide +kernel
theorem dX14_byteComes_63 : decode cX14_byteComes 63 = .ok (.iconst 1, 1) := by decide +kernel
theorem dX14_byteComes_64 : decode cX14_byteComes 64 = .ok (.iadd, 1) := by decide +kernel
theorem dX14_byteComes_65 : decode cX14_byteComes 65 = .ok (.putfield 258, 3) := by decide +kernel
theorem dX14_byteComes_68 : decode cX14_byteComes 68 = .ok (.aload_n 0, 1) := by decide +kernel
theorem dX14_byteComes_69 : decode cX14_byteComes 69 = .ok (.getfield 231, 3) := by decide +kernel
theorem dX14_byteComes_72 : decode cX14_byteComes 72 = .ok (.bipush 6, 2) := by decide +kernel
theorem dX14_byteComes_74 : decode cX14_byteComes 74 = .ok (.if_icmp .ne 14, 3) := by decide +kernel
theorem dX14_byteComes_77 : decode cX14_byteComes 77 = .ok (.aload_n 0, 1) := by decide +kernel
theorem dX14_byteComes_78 : decode cX14_byteComes 78 = .ok (.getfield 244, 3) := by decide +kernel
theorem dX14_byteComes_81 : decode cX14_byteComes 81 = .ok (.aload_n 0, 1) := by decide +kernel
theorem dX14_byteComes_82 : decode cX14_byteComes 82 = .ok (.getfield 33, 3) := by decide +kernel
theorem dX14_byteComes_85 : decode cX14_byteComes 85 = .ok (.if_icmp .ge 4, 3) := by decide +kernel
theorem dX14_byteComes_88 : decode cX14_byteComes 88 = .ok (.return_, 1) := by decide +kernel
theorem dX14_byteComes_89 : decode cX14_byteComes 89 = .ok (.aload_n 0, 1) := by decide +kernel
theorem dX14_byteComes_90 : decode cX14_byteComes 90 = .ok (.getfield 33, 3) := by decide +kernel
theorem dX14_byteComes_93 : decode cX14_byteComes 93 = .ok (.istore_n 2, 1) := by decide +kernel
theorem dX14_byteComes_94 : decode cX14_byteComes 94 = .ok (.aload_n 0, 1) := by decide +kernel
theorem dX14_byteComes_95 : decode cX14_byteComes 95 = .ok (.iconst 0, 1) := by decide +kernel
theorem dX14_byteComes_96 : decode cX14_byteComes 96 = .ok (.putfield 231, 3) := by decide +kernel
theorem dX14_byteComes_99 : decode cX14_byteComes 99 = .ok (.aload_n 0, 1) := by decide +kernel
theorem dX14_byteComes_100 : decode cX14_byteComes 100 = .ok (.iconst 0, 1) := by decide +kernel
theorem dX14_byteComes_101 : decode cX14_byteComes 101 = .ok (.putfield 228, 3) := by decide +kernel
theorem dX14_byteComes_104 : decode cX14_byteComes 104 = .ok (.aload_n 0, 1) := by decide +kernel
theorem dX14_byteComes_105 : decode cX14_byteComes 105 = .ok (.iconst 0, 1) := by decide +kernel
theorem dX14_byteComes_106 : decode cX14_byteComes 106 = .ok (.putfield 258, 3) := by decide +kernel
theorem dX14_byteComes_109 : decode cX14_byteComes 109 = .ok (.aload_n 0, 1) := by decide +kernel
theorem dX14_byteComes_110 : decode cX14_byteComes 110 = .ok (.iconst (-1), 1) := by decide +kernel
theorem dX14_byteComes_111 : decode cX14_byteComes 111 = .ok (.putfield 33, 3) := by decide +kernel
theorem dX14_byteComes_114 : decode cX14_byteComes 114 = .ok (.aload_n 0, 1) := by decide +kernel
theorem dX14_byteComes_115 : decode cX14_byteComes 115 = .ok (.dup, 1) := by decide +kernel
theorem dX14_byteComes_116 : decode cX14_byteComes 116 = .ok (.getfield 264, 3) := by decide +kernel
theorem dX14_byteComes_119 : decode cX14_byteComes 119 = .ok (.iconst 1, 1) := by decide +kernel
theorem dX14_byteComes_120 : decode cX14_byteComes 120 = .ok (.iadd, 1) := by decide +kernel
theorem dX14_byteComes_121 : decode cX14_byteComes 121 = .ok (.putfield 264, 3) := by decide +kernel
theorem dX14_byteComes_124 : decode cX14_byteComes 124 = .ok (.aload_n 0, 1) := by decide +kernel
theorem dX14_byteComes_125 : decode cX14_byteComes 125 = .ok (.iload_n 2, 1) := by decide +kernel
theorem dX14_byteComes_126 : decode cX14_byteComes 126 = .ok (.invokevirtual 267, 3) := by decide +kernel
theorem dX14_byteComes_129 : decode cX14_byteComes 129 = .ok (.return_, 1) := by decide +kernel
end
