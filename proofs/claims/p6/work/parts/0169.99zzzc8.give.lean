section
theorem dX11_give_0 : decode cX11_give 0 = .ok (.iload_n 1, 1) := by decide +kernel
theorem dX11_give_1 : decode cX11_give 1 = .ok (.ifCond .lt 14, 3) := by decide +kernel
theorem dX11_give_4 : decode cX11_give 4 = .ok (.iload_n 1, 1) := by decide +kernel
theorem dX11_give_5 : decode cX11_give 5 = .ok (.aload_n 0, 1) := by decide +kernel
theorem dX11_give_6 : decode cX11_give 6 = .ok (.getfield 14, 3) := by decide +kernel
theorem dX11_give_9 : decode cX11_give 9 = .ok (.getfield 92, 3) := by decide +kernel
theorem dX11_give_12 : decode cX11_give 12 = .ok (.if_icmp .le 5, 3) := by decide +kernel
theorem dX11_give_15 : decode cX11_give 15 = .ok (.iconst (-1), 1) := by decide +kernel
theorem dX11_give_16 : decode cX11_give 16 = .ok (.ireturn, 1) := by decide +kernel
theorem dX11_give_17 : decode cX11_give 17 = .ok (.iconst 0, 1) := by decide +kernel
theorem dX11_give_18 : decode cX11_give 18 = .ok (.istore_n 2, 1) := by decide +kernel
theorem dX11_give_19 : decode cX11_give 19 = .ok (.iload_n 2, 1) := by decide +kernel
theorem dX11_give_20 : decode cX11_give 20 = .ok (.iload_n 1, 1) := by decide +kernel
theorem dX11_give_21 : decode cX11_give 21 = .ok (.if_icmp .ge 86, 3) := by decide +kernel
theorem dX11_give_24 : decode cX11_give 24 = .ok (.iload_n 2, 1) := by decide +kernel
theorem dX11_give_25 : decode cX11_give 25 = .ok (.aload_n 0, 1) := by decide +kernel
theorem dX11_give_26 : decode cX11_give 26 = .ok (.getfield 14, 3) := by decide +kernel
theorem dX11_give_29 : decode cX11_give 29 = .ok (.getfield 98, 3) := by decide +kernel
theorem dX11_give_32 : decode cX11_give 32 = .ok (.arraylength, 1) := by decide +kernel
theorem dX11_give_33 : decode cX11_give 33 = .ok (.if_icmp .ge 74, 3) := by decide +kernel
theorem dX11_give_36 : decode cX11_give 36 = .ok (.aload_n 0, 1) := by decide +kernel
theorem dX11_give_37 : decode cX11_give 37 = .ok (.getfield 21, 3) := by decide +kernel
theorem dX11_give_40 : decode cX11_give 40 = .ok (.getfield 102, 3) := by decide +kernel
theorem dX11_give_43 : decode cX11_give 43 = .ok (.ifCond .ne 64, 3) := by decide +kernel
theorem dX11_give_46 : decode cX11_give 46 = .ok (.aload_n 0, 1) := by decide +kernel
theorem dX11_give_47 : decode cX11_give 47 = .ok (.getfield 21, 3) := by decide +kernel
theorem dX11_give_50 : decode cX11_give 50 = .ok (.aload_n 0, 1) := by decide +kernel
theorem dX11_give_51 : decode cX11_give 51 = .ok (.getfield 14, 3) := by decide +kernel
theorem dX11_give_54 : decode cX11_give 54 = .ok (.getfield 98, 3) := by decide +kernel
theorem dX11_give_57 : decode cX11_give 57 = .ok (.iload_n 2, 1) := by decide +kernel
theorem dX11_give_58 : decode cX11_give 58 = .ok (.baload, 1) := by decide +kernel
theorem dX11_give_59 : decode cX11_give 59 = .ok (.sipush 255, 3) := by decide +kernel
theorem dX11_give_62 : decode cX11_give 62 = .ok (.iand, 1) := by decide +kernel
theorem dX11_give_63 : decode cX11_give 63 = .ok (.invokevirtual 106, 3) := by decide +kernel
theorem dX11_give_66 : decode cX11_give 66 = .ok (.ifCond .eq 35, 3) := by decide +kernel
theorem dX11_give_69 : decode cX11_give 69 = .ok (.aload_n 0, 1) := by decide +kernel
theorem dX11_give_70 : decode cX11_give 70 = .ok (.invokevirtual 110, 3) := by decide +kernel
theorem dX11_give_73 : decode cX11_give 73 = .ok (.astore_n 3, 1) := by decide +kernel
theorem dX11_give_74 : decode cX11_give 74 = .ok (.aload_n 3, 1) := by decide +kernel
theorem dX11_give_75 : decode cX11_give 75 = .ok (.ifnull 18, 3) := by decide +kernel
theorem dX11_give_78 : decode cX11_give 78 = .ok (.aload_n 3, 1) := by decide +kernel
theorem dX11_give_79 : decode cX11_give 79 = .ok (.getfield 114, 3) := by decide +kernel
theorem dX11_give_82 : decode cX11_give 82 = .ok (.ifnull 11, 3) := by decide +kernel
theorem dX11_give_85 : decode cX11_give 85 = .ok (.aload_n 0, 1) := by decide +kernel
theorem dX11_give_86 : decode cX11_give 86 = .ok (.aload_n 3, 1) := by decide +kernel
theorem dX11_give_87 : decode cX11_give 87 = .ok (.invokevirtual 119, 3) := by decide +kernel
theorem dX11_give_90 : decode cX11_give 90 = .ok (.goto 11, 3) := by decide +kernel
theorem dX11_give_93 : decode cX11_give 93 = .ok (.aload_n 3, 1) := by decide +kernel
theorem dX11_give_94 : decode cX11_give 94 = .ok (.ifnull 7, 3) := by decide +kernel
theorem dX11_give_97 : decode cX11_give 97 = .ok (.aload_n 0, 1) := by decide +kernel
theorem dX11_give_98 : decode cX11_give 98 = .ok (.invokevirtual 123, 3) := by decide +kernel
theorem dX11_give_101 : decode cX11_give 101 = .ok (.iinc 2 1, 3) := by decide +kernel
theorem dX11_give_104 : decode cX11_give 104 = .ok (.goto (-85), 3) := by decide +kernel
theorem dX11_give_107 : decode cX11_give 107 = .ok (.aload_n 0, 1) := by decide +kernel
theorem dX11_give_108 : decode cX11_give 108 = .ok (.getfield 14, 3) := by decide +kernel
theorem dX11_give_111 : decode cX11_give 111 = .ok (.iconst 0, 1) := by decide +kernel
theorem dX11_give_112 : decode cX11_give 112 = .ok (.putfield 92, 3) := by decide +kernel
theorem dX11_give_115 : decode cX11_give 115 = .ok (.aload_n 0, 1) := by decide +kernel
theorem dX11_give_116 : decode cX11_give 116 = .ok (.getfield 32, 3) := by decide +kernel
theorem dX11_give_119 : decode cX11_give 119 = .ok (.getfield 92, 3) := by decide +kernel
theorem dX11_give_122 : decode cX11_give 122 = .ok (.ireturn, 1) := by decide +kernel
end
