section
def jTk (f g : Nat → Int32) (i n c : Int) : Int := if i < n ∧ (f i.toNat).toInt = 3 ∧ (g i.toNat).toInt = c then 1 else 0
theorem jTk_le (f g : Nat → Int32) (i n c : Int) : 0 ≤ jTk f g i n c ∧ jTk f g i n c ≤ 1 := by unfold jTk; split <;> omega
theorem dX13_begin_0 : decode cX13_begin 0 = .ok (.aload_n 0, 1) := by decide +kernel
theorem dX13_begin_1 : decode cX13_begin 1 = .ok (.iconst 0, 1) := by decide +kernel
theorem dX13_begin_2 : decode cX13_begin 2 = .ok (.putfield 99, 3) := by decide +kernel
theorem dX13_begin_5 : decode cX13_begin 5 = .ok (.aload_n 0, 1) := by decide +kernel
theorem dX13_begin_6 : decode cX13_begin 6 = .ok (.iconst 0, 1) := by decide +kernel
theorem dX13_begin_7 : decode cX13_begin 7 = .ok (.putfield 103, 3) := by decide +kernel
theorem dX13_begin_10 : decode cX13_begin 10 = .ok (.aload_n 0, 1) := by decide +kernel
theorem dX13_begin_11 : decode cX13_begin 11 = .ok (.iconst 0, 1) := by decide +kernel
theorem dX13_begin_12 : decode cX13_begin 12 = .ok (.putfield 106, 3) := by decide +kernel
theorem dX13_begin_15 : decode cX13_begin 15 = .ok (.aload_n 0, 1) := by decide +kernel
theorem dX13_begin_16 : decode cX13_begin 16 = .ok (.iconst 0, 1) := by decide +kernel
theorem dX13_begin_17 : decode cX13_begin 17 = .ok (.putfield 109, 3) := by decide +kernel
theorem dX13_begin_20 : decode cX13_begin 20 = .ok (.aload_n 0, 1) := by decide +kernel
theorem dX13_begin_21 : decode cX13_begin 21 = .ok (.iconst 0, 1) := by decide +kernel
theorem dX13_begin_22 : decode cX13_begin 22 = .ok (.putfield 112, 3) := by decide +kernel
theorem dX13_begin_25 : decode cX13_begin 25 = .ok (.aload_n 0, 1) := by decide +kernel
theorem dX13_begin_26 : decode cX13_begin 26 = .ok (.iconst 0, 1) := by decide +kernel
theorem dX13_begin_27 : decode cX13_begin 27 = .ok (.putfield 115, 3) := by decide +kernel
theorem dX13_begin_30 : decode cX13_begin 30 = .ok (.aload_n 0, 1) := by decide +kernel
theorem dX13_begin_31 : decode cX13_begin 31 = .ok (.iconst 0, 1) := by decide +kernel
theorem dX13_begin_32 : decode cX13_begin 32 = .ok (.putfield 119, 3) := by decide +kernel
theorem dX13_begin_35 : decode cX13_begin 35 = .ok (.return_, 1) := by decide +kernel
theorem dX13_nameOf_0 : decode cX13_nameOf 0 = .ok (.iconst 0, 1) := by decide +kernel
theorem dX13_nameOf_1 : decode cX13_nameOf 1 = .ok (.istore 4, 2) := by decide +kernel
theorem dX13_nameOf_3 : decode cX13_nameOf 3 = .ok (.iload 4, 2) := by decide +kernel
theorem dX13_nameOf_5 : decode cX13_nameOf 5 = .ok (.aload_n 0, 1) := by decide +kernel
theorem dX13_nameOf_6 : decode cX13_nameOf 6 = .ok (.getfield 103, 3) := by decide +kernel
theorem dX13_nameOf_9 : decode cX13_nameOf 9 = .ok (.if_icmp .ge 94, 3) := by decide +kernel
theorem dX13_nameOf_12 : decode cX13_nameOf 12 = .ok (.aload_n 0, 1) := by decide +kernel
theorem dX13_nameOf_13 : decode cX13_nameOf 13 = .ok (.getfield 34, 3) := by decide +kernel
theorem dX13_nameOf_16 : decode cX13_nameOf 16 = .ok (.iload 4, 2) := by decide +kernel
theorem dX13_nameOf_18 : decode cX13_nameOf 18 = .ok (.iaload, 1) := by decide +kernel
theorem dX13_nameOf_19 : decode cX13_nameOf 19 = .ok (.iload_n 3, 1) := by decide +kernel
theorem dX13_nameOf_20 : decode cX13_nameOf 20 = .ok (.iload_n 2, 1) := by decide +kernel
theorem dX13_nameOf_21 : decode cX13_nameOf 21 = .ok (.isub, 1) := by decide +kernel
theorem dX13_nameOf_22 : decode cX13_nameOf 22 = .ok (.if_icmp .ne 7, 3) := by decide +kernel
theorem dX13_nameOf_25 : decode cX13_nameOf 25 = .ok (.iconst 1, 1) := by decide +kernel
theorem dX13_nameOf_26 : decode cX13_nameOf 26 = .ok (.goto 4, 3) := by decide +kernel
theorem dX13_nameOf_29 : decode cX13_nameOf 29 = .ok (.iconst 0, 1) := by decide +kernel
theorem dX13_nameOf_30 : decode cX13_nameOf 30 = .ok (.istore 5, 2) := by decide +kernel
theorem dX13_nameOf_32 : decode cX13_nameOf 32 = .ok (.iconst 0, 1) := by decide +kernel
theorem dX13_nameOf_33 : decode cX13_nameOf 33 = .ok (.istore 6, 2) := by decide +kernel
theorem dX13_nameOf_35 : decode cX13_nameOf 35 = .ok (.iload 6, 2) := by decide +kernel
theorem dX13_nameOf_37 : decode cX13_nameOf 37 = .ok (.aload_n 0, 1) := by decide +kernel
theorem dX13_nameOf_38 : decode cX13_nameOf 38 = .ok (.getfield 34, 3) := by decide +kernel
theorem dX13_nameOf_41 : decode cX13_nameOf 41 = .ok (.iload 4, 2) := by decide +kernel
theorem dX13_nameOf_43 : decode cX13_nameOf 43 = .ok (.iaload, 1) := by decide +kernel
theorem dX13_nameOf_44 : decode cX13_nameOf 44 = .ok (.if_icmp .ge 45, 3) := by decide +kernel
theorem dX13_nameOf_47 : decode cX13_nameOf 47 = .ok (.iload 5, 2) := by decide +kernel
theorem dX13_nameOf_49 : decode cX13_nameOf 49 = .ok (.ifCond .eq 40, 3) := by decide +kernel
theorem dX13_nameOf_52 : decode cX13_nameOf 52 = .ok (.aload_n 0, 1) := by decide +kernel
theorem dX13_nameOf_53 : decode cX13_nameOf 53 = .ok (.getfield 28, 3) := by decide +kernel
theorem dX13_nameOf_56 : decode cX13_nameOf 56 = .ok (.aload_n 0, 1) := by decide +kernel
theorem dX13_nameOf_57 : decode cX13_nameOf 57 = .ok (.getfield 31, 3) := by decide +kernel
theorem dX13_nameOf_60 : decode cX13_nameOf 60 = .ok (.iload 4, 2) := by decide +kernel
theorem dX13_nameOf_62 : decode cX13_nameOf 62 = .ok (.iaload, 1) := by decide +kernel
theorem dX13_nameOf_63 : decode cX13_nameOf 63 = .ok (.iload 6, 2) := by decide +kernel
theorem dX13_nameOf_65 : decode cX13_nameOf 65 = .ok (.iadd, 1) := by decide +kernel
theorem dX13_nameOf_66 : decode cX13_nameOf 66 = .ok (.iaload, 1) := by decide +kernel
theorem dX13_nameOf_67 : decode cX13_nameOf 67 = .ok (.aload_n 1, 1) := by decide +kernel
theorem dX13_nameOf_68 : decode cX13_nameOf 68 = .ok (.iload_n 2, 1) := by decide +kernel
theorem dX13_nameOf_69 : decode cX13_nameOf 69 = .ok (.iload 6, 2) := by decide +kernel
theorem dX13_nameOf_71 : decode cX13_nameOf 71 = .ok (.iadd, 1) := by decide +kernel
theorem dX13_nameOf_72 : decode cX13_nameOf 72 = .ok (.iaload, 1) := by decide +kernel
theorem dX13_nameOf_73 : decode cX13_nameOf 73 = .ok (.if_icmp .ne 7, 3) := by decide +kernel
theorem dX13_nameOf_76 : decode cX13_nameOf 76 = .ok (.iconst 1, 1) := by decide +kernel
theorem dX13_nameOf_77 : decode cX13_nameOf 77 = .ok (.goto 4, 3) := by decide +kernel
theorem dX13_nameOf_80 : decode cX13_nameOf 80 = .ok (.iconst 0, 1) := by decide +kernel
theorem dX13_nameOf_81 : decode cX13_nameOf 81 = .ok (.istore 5, 2) := by decide +kernel
theorem dX13_nameOf_83 : decode cX13_nameOf 83 = .ok (.iinc 6 1, 3) := by decide +kernel
theorem dX13_nameOf_86 : decode cX13_nameOf 86 = .ok (.goto (-51), 3) := by decide +kernel
theorem dX13_nameOf_89 : decode cX13_nameOf 89 = .ok (.iload 5, 2) := by decide +kernel
theorem dX13_nameOf_91 : decode cX13_nameOf 91 = .ok (.ifCond .eq 6, 3) := by decide +kernel
theorem dX13_nameOf_94 : decode cX13_nameOf 94 = .ok (.iload 4, 2) := by decide +kernel
theorem dX13_nameOf_96 : decode cX13_nameOf 96 = .ok (.ireturn, 1) := by decide +kernel
theorem dX13_nameOf_97 : decode cX13_nameOf 97 = .ok (.iinc 4 1, 3) := by decide +kernel
theorem dX13_nameOf_100 : decode cX13_nameOf 100 = .ok (.goto (-97), 3) := by decide +kernel
theorem dX13_nameOf_103 : decode cX13_nameOf 103 = .ok (.aload_n 0, 1) := by decide +kernel
theorem dX13_nameOf_104 : decode cX13_nameOf 104 = .ok (.getfield 31, 3) := by decide +kernel
theorem dX13_nameOf_107 : decode cX13_nameOf 107 = .ok (.aload_n 0, 1) := by decide +kernel
theorem dX13_nameOf_108 : decode cX13_nameOf 108 = .ok (.getfield 103, 3) := by decide +kernel
theorem dX13_nameOf_111 : decode cX13_nameOf 111 = .ok (.aload_n 0, 1) := by decide +kernel
theorem dX13_nameOf_112 : decode cX13_nameOf 112 = .ok (.getfield 106, 3) := by decide +kernel
theorem dX13_nameOf_115 : decode cX13_nameOf 115 = .ok (.iastore, 1) := by decide +kernel
theorem dX13_nameOf_116 : decode cX13_nameOf 116 = .ok (.aload_n 0, 1) := by decide +kernel
theorem dX13_nameOf_117 : decode cX13_nameOf 117 = .ok (.getfield 34, 3) := by decide +kernel
theorem dX13_nameOf_120 : decode cX13_nameOf 120 = .ok (.aload_n 0, 1) := by decide +kernel
theorem dX13_nameOf_121 : decode cX13_nameOf 121 = .ok (.getfield 103, 3) := by decide +kernel
theorem dX13_nameOf_124 : decode cX13_nameOf 124 = .ok (.iload_n 3, 1) := by decide +kernel
theorem dX13_nameOf_125 : decode cX13_nameOf 125 = .ok (.iload_n 2, 1) := by decide +kernel
theorem dX13_nameOf_126 : decode cX13_nameOf 126 = .ok (.isub, 1) := by decide +kernel
theorem dX13_nameOf_127 : decode cX13_nameOf 127 = .ok (.iastore, 1) := by decide +kernel
theorem dX13_nameOf_128 : decode cX13_nameOf 128 = .ok (.iload_n 2, 1) := by decide +kernel
theorem dX13_nameOf_129 : decode cX13_nameOf 129 = .ok (.istore 4, 2) := by decide +kernel
theorem dX13_nameOf_131 : decode cX13_nameOf 131 = .ok (.iload 4, 2) := by decide +kernel
theorem dX13_nameOf_133 : decode cX13_nameOf 133 = .ok (.iload_n 3, 1) := by decide +kernel
theorem dX13_nameOf_134 : decode cX13_nameOf 134 = .ok (.if_icmp .ge 32, 3) := by decide +kernel
theorem dX13_nameOf_137 : decode cX13_nameOf 137 = .ok (.aload_n 0, 1) := by decide +kernel
theorem dX13_nameOf_138 : decode cX13_nameOf 138 = .ok (.getfield 28, 3) := by decide +kernel
theorem dX13_nameOf_141 : decode cX13_nameOf 141 = .ok (.aload_n 0, 1) := by decide +kernel
theorem dX13_nameOf_142 : decode cX13_nameOf 142 = .ok (.getfield 106, 3) := by decide +kernel
theorem dX13_nameOf_145 : decode cX13_nameOf 145 = .ok (.aload_n 1, 1) := by decide +kernel
theorem dX13_nameOf_146 : decode cX13_nameOf 146 = .ok (.iload 4, 2) := by decide +kernel
theorem dX13_nameOf_148 : decode cX13_nameOf 148 = .ok (.iaload, 1) := by decide +kernel
theorem dX13_nameOf_149 : decode cX13_nameOf 149 = .ok (.iastore, 1) := by decide +kernel
theorem dX13_nameOf_150 : decode cX13_nameOf 150 = .ok (.aload_n 0, 1) := by decide +kernel
theorem dX13_nameOf_151 : decode cX13_nameOf 151 = .ok (.dup, 1) := by decide +kernel
theorem dX13_nameOf_152 : decode cX13_nameOf 152 = .ok (.getfield 106, 3) := by decide +kernel
theorem dX13_nameOf_155 : decode cX13_nameOf 155 = .ok (.iconst 1, 1) := by decide +kernel
theorem dX13_nameOf_156 : decode cX13_nameOf 156 = .ok (.iadd, 1) := by decide +kernel
theorem dX13_nameOf_157 : decode cX13_nameOf 157 = .ok (.putfield 106, 3) := by decide +kernel
theorem dX13_nameOf_160 : decode cX13_nameOf 160 = .ok (.iinc 4 1, 3) := by decide +kernel
theorem dX13_nameOf_163 : decode cX13_nameOf 163 = .ok (.goto (-32), 3) := by decide +kernel
theorem dX13_nameOf_166 : decode cX13_nameOf 166 = .ok (.aload_n 0, 1) := by decide +kernel
theorem dX13_nameOf_167 : decode cX13_nameOf 167 = .ok (.dup, 1) := by decide +kernel
theorem dX13_nameOf_168 : decode cX13_nameOf 168 = .ok (.getfield 103, 3) := by decide +kernel
theorem dX13_nameOf_171 : decode cX13_nameOf 171 = .ok (.iconst 1, 1) := by decide +kernel
theorem dX13_nameOf_172 : decode cX13_nameOf 172 = .ok (.iadd, 1) := by decide +kernel
theorem dX13_nameOf_173 : decode cX13_nameOf 173 = .ok (.putfield 103, 3) := by decide +kernel
theorem dX13_nameOf_176 : decode cX13_nameOf 176 = .ok (.aload_n 0, 1) := by decide +kernel
theorem dX13_nameOf_177 : decode cX13_nameOf 177 = .ok (.getfield 103, 3) := by decide +kernel
theorem dX13_nameOf_180 : decode cX13_nameOf 180 = .ok (.iconst 1, 1) := by decide +kernel
theorem dX13_nameOf_181 : decode cX13_nameOf 181 = .ok (.isub, 1) := by decide +kernel
theorem dX13_nameOf_182 : decode cX13_nameOf 182 = .ok (.ireturn, 1) := by decide +kernel
theorem dX13_isNamed_0 : decode cX13_isNamed 0 = .ok (.aload_n 0, 1) := by decide +kernel
theorem dX13_isNamed_1 : decode cX13_isNamed 1 = .ok (.getfield 34, 3) := by decide +kernel
theorem dX13_isNamed_4 : decode cX13_isNamed 4 = .ok (.iload_n 1, 1) := by decide +kernel
theorem dX13_isNamed_5 : decode cX13_isNamed 5 = .ok (.iaload, 1) := by decide +kernel
theorem dX13_isNamed_6 : decode cX13_isNamed 6 = .ok (.aload_n 2, 1) := by decide +kernel
theorem dX13_isNamed_7 : decode cX13_isNamed 7 = .ok (.invokevirtual 122, 3) := by decide +kernel
theorem dX13_isNamed_10 : decode cX13_isNamed 10 = .ok (.if_icmp .ne 7, 3) := by decide +kernel
theorem dX13_isNamed_13 : decode cX13_isNamed 13 = .ok (.iconst 1, 1) := by decide +kernel
theorem dX13_isNamed_14 : decode cX13_isNamed 14 = .ok (.goto 4, 3) := by decide +kernel
theorem dX13_isNamed_17 : decode cX13_isNamed 17 = .ok (.iconst 0, 1) := by decide +kernel
theorem dX13_isNamed_18 : decode cX13_isNamed 18 = .ok (.istore_n 3, 1) := by decide +kernel
theorem dX13_isNamed_19 : decode cX13_isNamed 19 = .ok (.iconst 0, 1) := by decide +kernel
theorem dX13_isNamed_20 : decode cX13_isNamed 20 = .ok (.istore 4, 2) := by decide +kernel
theorem dX13_isNamed_22 : decode cX13_isNamed 22 = .ok (.iload 4, 2) := by decide +kernel
theorem dX13_isNamed_24 : decode cX13_isNamed 24 = .ok (.aload_n 2, 1) := by decide +kernel
theorem dX13_isNamed_25 : decode cX13_isNamed 25 = .ok (.invokevirtual 122, 3) := by decide +kernel
theorem dX13_isNamed_28 : decode cX13_isNamed 28 = .ok (.if_icmp .ge 42, 3) := by decide +kernel
theorem dX13_isNamed_31 : decode cX13_isNamed 31 = .ok (.iload_n 3, 1) := by decide +kernel
theorem dX13_isNamed_32 : decode cX13_isNamed 32 = .ok (.ifCond .eq 38, 3) := by decide +kernel
theorem dX13_isNamed_35 : decode cX13_isNamed 35 = .ok (.aload_n 0, 1) := by decide +kernel
theorem dX13_isNamed_36 : decode cX13_isNamed 36 = .ok (.getfield 28, 3) := by decide +kernel
theorem dX13_isNamed_39 : decode cX13_isNamed 39 = .ok (.aload_n 0, 1) := by decide +kernel
theorem dX13_isNamed_40 : decode cX13_isNamed 40 = .ok (.getfield 31, 3) := by decide +kernel
theorem dX13_isNamed_43 : decode cX13_isNamed 43 = .ok (.iload_n 1, 1) := by decide +kernel
theorem dX13_isNamed_44 : decode cX13_isNamed 44 = .ok (.iaload, 1) := by decide +kernel
theorem dX13_isNamed_45 : decode cX13_isNamed 45 = .ok (.iload 4, 2) := by decide +kernel
theorem dX13_isNamed_47 : decode cX13_isNamed 47 = .ok (.iadd, 1) := by decide +kernel
theorem dX13_isNamed_48 : decode cX13_isNamed 48 = .ok (.iaload, 1) := by decide +kernel
theorem dX13_isNamed_49 : decode cX13_isNamed 49 = .ok (.aload_n 2, 1) := by decide +kernel
theorem dX13_isNamed_50 : decode cX13_isNamed 50 = .ok (.iload 4, 2) := by decide +kernel
theorem dX13_isNamed_52 : decode cX13_isNamed 52 = .ok (.invokevirtual 128, 3) := by decide +kernel
theorem dX13_isNamed_55 : decode cX13_isNamed 55 = .ok (.if_icmp .ne 7, 3) := by decide +kernel
theorem dX13_isNamed_58 : decode cX13_isNamed 58 = .ok (.iconst 1, 1) := by decide +kernel
theorem dX13_isNamed_59 : decode cX13_isNamed 59 = .ok (.goto 4, 3) := by decide +kernel
theorem dX13_isNamed_62 : decode cX13_isNamed 62 = .ok (.iconst 0, 1) := by decide +kernel
theorem dX13_isNamed_63 : decode cX13_isNamed 63 = .ok (.istore_n 3, 1) := by decide +kernel
theorem dX13_isNamed_64 : decode cX13_isNamed 64 = .ok (.iinc 4 1, 3) := by decide +kernel
theorem dX13_isNamed_67 : decode cX13_isNamed 67 = .ok (.goto (-45), 3) := by decide +kernel
theorem dX13_isNamed_70 : decode cX13_isNamed 70 = .ok (.iload_n 3, 1) := by decide +kernel
theorem dX13_isNamed_71 : decode cX13_isNamed 71 = .ok (.ireturn, 1) := by decide +kernel
theorem dX13_node_0 : decode cX13_node 0 = .ok (.aload_n 0, 1) := by decide +kernel
theorem dX13_node_1 : decode cX13_node 1 = .ok (.getfield 12, 3) := by decide +kernel
theorem dX13_node_4 : decode cX13_node 4 = .ok (.aload_n 0, 1) := by decide +kernel
theorem dX13_node_5 : decode cX13_node 5 = .ok (.getfield 99, 3) := by decide +kernel
theorem dX13_node_8 : decode cX13_node 8 = .ok (.iload_n 1, 1) := by decide +kernel
theorem dX13_node_9 : decode cX13_node 9 = .ok (.iastore, 1) := by decide +kernel
theorem dX13_node_10 : decode cX13_node 10 = .ok (.aload_n 0, 1) := by decide +kernel
theorem dX13_node_11 : decode cX13_node 11 = .ok (.getfield 16, 3) := by decide +kernel
theorem dX13_node_14 : decode cX13_node 14 = .ok (.aload_n 0, 1) := by decide +kernel
theorem dX13_node_15 : decode cX13_node 15 = .ok (.getfield 99, 3) := by decide +kernel
theorem dX13_node_18 : decode cX13_node 18 = .ok (.iload_n 2, 1) := by decide +kernel
theorem dX13_node_19 : decode cX13_node 19 = .ok (.iastore, 1) := by decide +kernel
theorem dX13_node_20 : decode cX13_node 20 = .ok (.aload_n 0, 1) := by decide +kernel
theorem dX13_node_21 : decode cX13_node 21 = .ok (.getfield 19, 3) := by decide +kernel
theorem dX13_node_24 : decode cX13_node 24 = .ok (.aload_n 0, 1) := by decide +kernel
theorem dX13_node_25 : decode cX13_node 25 = .ok (.getfield 99, 3) := by decide +kernel
theorem dX13_node_28 : decode cX13_node 28 = .ok (.iload_n 3, 1) := by decide +kernel
theorem dX13_node_29 : decode cX13_node 29 = .ok (.iastore, 1) := by decide +kernel
theorem dX13_node_30 : decode cX13_node 30 = .ok (.aload_n 0, 1) := by decide +kernel
theorem dX13_node_31 : decode cX13_node 31 = .ok (.getfield 22, 3) := by decide +kernel
theorem dX13_node_34 : decode cX13_node 34 = .ok (.aload_n 0, 1) := by decide +kernel
theorem dX13_node_35 : decode cX13_node 35 = .ok (.getfield 99, 3) := by decide +kernel
theorem dX13_node_38 : decode cX13_node 38 = .ok (.iload 4, 2) := by decide +kernel
theorem dX13_node_40 : decode cX13_node 40 = .ok (.iastore, 1) := by decide +kernel
theorem dX13_node_41 : decode cX13_node 41 = .ok (.aload_n 0, 1) := by decide +kernel
theorem dX13_node_42 : decode cX13_node 42 = .ok (.getfield 25, 3) := by decide +kernel
theorem dX13_node_45 : decode cX13_node 45 = .ok (.aload_n 0, 1) := by decide +kernel
theorem dX13_node_46 : decode cX13_node 46 = .ok (.getfield 99, 3) := by decide +kernel
theorem dX13_node_49 : decode cX13_node 49 = .ok (.iload 5, 2) := by decide +kernel
theorem dX13_node_51 : decode cX13_node 51 = .ok (.iastore, 1) := by decide +kernel
theorem dX13_node_52 : decode cX13_node 52 = .ok (.aload_n 0, 1) := by decide +kernel
theorem dX13_node_53 : decode cX13_node 53 = .ok (.dup, 1) := by decide +kernel
theorem dX13_node_54 : decode cX13_node 54 = .ok (.getfield 99, 3) := by decide +kernel
theorem dX13_node_57 : decode cX13_node 57 = .ok (.iconst 1, 1) := by decide +kernel
theorem dX13_node_58 : decode cX13_node 58 = .ok (.iadd, 1) := by decide +kernel
theorem dX13_node_59 : decode cX13_node 59 = .ok (.putfield 99, 3) := by decide +kernel
theorem dX13_node_62 : decode cX13_node 62 = .ok (.aload_n 0, 1) := by decide +kernel
theorem dX13_node_63 : decode cX13_node 63 = .ok (.getfield 99, 3) := by decide +kernel
theorem dX13_node_66 : decode cX13_node 66 = .ok (.iconst 1, 1) := by decide +kernel
theorem dX13_node_67 : decode cX13_node 67 = .ok (.isub, 1) := by decide +kernel
theorem dX13_node_68 : decode cX13_node 68 = .ok (.ireturn, 1) := by decide +kernel
theorem dX13_part_0 : decode cX13_part 0 = .ok (.iload_n 2, 1) := by decide +kernel
theorem dX13_part_1 : decode cX13_part 1 = .ok (.ifCond .ne 12, 3) := by decide +kernel
theorem dX13_part_4 : decode cX13_part 4 = .ok (.aload_n 0, 1) := by decide +kernel
theorem dX13_part_5 : decode cX13_part 5 = .ok (.getfield 19, 3) := by decide +kernel
theorem dX13_part_8 : decode cX13_part 8 = .ok (.iload_n 1, 1) := by decide +kernel
theorem dX13_part_9 : decode cX13_part 9 = .ok (.iaload, 1) := by decide +kernel
theorem dX13_part_10 : decode cX13_part 10 = .ok (.goto 23, 3) := by decide +kernel
theorem dX13_part_13 : decode cX13_part 13 = .ok (.iload_n 2, 1) := by decide +kernel
theorem dX13_part_14 : decode cX13_part 14 = .ok (.iconst 1, 1) := by decide +kernel
theorem dX13_part_15 : decode cX13_part 15 = .ok (.if_icmp .ne 12, 3) := by decide +kernel
theorem dX13_part_18 : decode cX13_part 18 = .ok (.aload_n 0, 1) := by decide +kernel
theorem dX13_part_19 : decode cX13_part 19 = .ok (.getfield 22, 3) := by decide +kernel
theorem dX13_part_22 : decode cX13_part 22 = .ok (.iload_n 1, 1) := by decide +kernel
theorem dX13_part_23 : decode cX13_part 23 = .ok (.iaload, 1) := by decide +kernel
theorem dX13_part_24 : decode cX13_part 24 = .ok (.goto 9, 3) := by decide +kernel
theorem dX13_part_27 : decode cX13_part 27 = .ok (.aload_n 0, 1) := by decide +kernel
theorem dX13_part_28 : decode cX13_part 28 = .ok (.getfield 25, 3) := by decide +kernel
theorem dX13_part_31 : decode cX13_part 31 = .ok (.iload_n 1, 1) := by decide +kernel
theorem dX13_part_32 : decode cX13_part 32 = .ok (.iaload, 1) := by decide +kernel
theorem dX13_part_33 : decode cX13_part 33 = .ok (.ireturn, 1) := by decide +kernel
theorem dX13_isLetter_0 : decode cX13_isLetter 0 = .ok (.iload_n 0, 1) := by decide +kernel
theorem dX13_isLetter_1 : decode cX13_isLetter 1 = .ok (.bipush 97, 2) := by decide +kernel
theorem dX13_isLetter_3 : decode cX13_isLetter 3 = .ok (.bipush 122, 2) := by decide +kernel
theorem dX13_isLetter_5 : decode cX13_isLetter 5 = .ok (.invokestatic 132, 3) := by decide +kernel
theorem dX13_isLetter_8 : decode cX13_isLetter 8 = .ok (.ifCond .ne 14, 3) := by decide +kernel
theorem dX13_isLetter_11 : decode cX13_isLetter 11 = .ok (.iload_n 0, 1) := by decide +kernel
theorem dX13_isLetter_12 : decode cX13_isLetter 12 = .ok (.bipush 65, 2) := by decide +kernel
theorem dX13_isLetter_14 : decode cX13_isLetter 14 = .ok (.bipush 90, 2) := by decide +kernel
theorem dX13_isLetter_16 : decode cX13_isLetter 16 = .ok (.invokestatic 132, 3) := by decide +kernel
theorem dX13_isLetter_19 : decode cX13_isLetter 19 = .ok (.ifCond .eq 7, 3) := by decide +kernel
theorem dX13_isLetter_22 : decode cX13_isLetter 22 = .ok (.iconst 1, 1) := by decide +kernel
theorem dX13_isLetter_23 : decode cX13_isLetter 23 = .ok (.goto 4, 3) := by decide +kernel
theorem dX13_isLetter_26 : decode cX13_isLetter 26 = .ok (.iconst 0, 1) := by decide +kernel
theorem dX13_isLetter_27 : decode cX13_isLetter 27 = .ok (.ireturn, 1) := by decide +kernel
theorem dX13_isNameSign_0 : decode cX13_isNameSign 0 = .ok (.iload_n 0, 1) := by decide +kernel
theorem dX13_isNameSign_1 : decode cX13_isNameSign 1 = .ok (.invokestatic 136, 3) := by decide +kernel
theorem dX13_isNameSign_4 : decode cX13_isNameSign 4 = .ok (.ifCond .ne 26, 3) := by decide +kernel
theorem dX13_isNameSign_7 : decode cX13_isNameSign 7 = .ok (.iload_n 0, 1) := by decide +kernel
theorem dX13_isNameSign_8 : decode cX13_isNameSign 8 = .ok (.bipush 48, 2) := by decide +kernel
theorem dX13_isNameSign_10 : decode cX13_isNameSign 10 = .ok (.bipush 57, 2) := by decide +kernel
theorem dX13_isNameSign_12 : decode cX13_isNameSign 12 = .ok (.invokestatic 132, 3) := by decide +kernel
theorem dX13_isNameSign_15 : decode cX13_isNameSign 15 = .ok (.ifCond .ne 15, 3) := by decide +kernel
theorem dX13_isNameSign_18 : decode cX13_isNameSign 18 = .ok (.iload_n 0, 1) := by decide +kernel
theorem dX13_isNameSign_19 : decode cX13_isNameSign 19 = .ok (.bipush 95, 2) := by decide +kernel
theorem dX13_isNameSign_21 : decode cX13_isNameSign 21 = .ok (.if_icmp .eq 9, 3) := by decide +kernel
theorem dX13_isNameSign_24 : decode cX13_isNameSign 24 = .ok (.iload_n 0, 1) := by decide +kernel
theorem dX13_isNameSign_25 : decode cX13_isNameSign 25 = .ok (.bipush 39, 2) := by decide +kernel
theorem dX13_isNameSign_27 : decode cX13_isNameSign 27 = .ok (.if_icmp .ne 7, 3) := by decide +kernel
theorem dX13_isNameSign_30 : decode cX13_isNameSign 30 = .ok (.iconst 1, 1) := by decide +kernel
theorem dX13_isNameSign_31 : decode cX13_isNameSign 31 = .ok (.goto 4, 3) := by decide +kernel
theorem dX13_isNameSign_34 : decode cX13_isNameSign 34 = .ok (.iconst 0, 1) := by decide +kernel
theorem dX13_isNameSign_35 : decode cX13_isNameSign 35 = .ok (.ireturn, 1) := by decide +kernel
theorem dX13_token_0 : decode cX13_token 0 = .ok (.aload_n 0, 1) := by decide +kernel
theorem dX13_token_1 : decode cX13_token 1 = .ok (.getfield 71, 3) := by decide +kernel
theorem dX13_token_4 : decode cX13_token 4 = .ok (.aload_n 0, 1) := by decide +kernel
theorem dX13_token_5 : decode cX13_token 5 = .ok (.getfield 140, 3) := by decide +kernel
theorem dX13_token_8 : decode cX13_token 8 = .ok (.iload_n 1, 1) := by decide +kernel
theorem dX13_token_9 : decode cX13_token 9 = .ok (.iastore, 1) := by decide +kernel
theorem dX13_token_10 : decode cX13_token 10 = .ok (.aload_n 0, 1) := by decide +kernel
theorem dX13_token_11 : decode cX13_token 11 = .ok (.getfield 74, 3) := by decide +kernel
theorem dX13_token_14 : decode cX13_token 14 = .ok (.aload_n 0, 1) := by decide +kernel
theorem dX13_token_15 : decode cX13_token 15 = .ok (.getfield 140, 3) := by decide +kernel
theorem dX13_token_18 : decode cX13_token 18 = .ok (.iload_n 2, 1) := by decide +kernel
theorem dX13_token_19 : decode cX13_token 19 = .ok (.iastore, 1) := by decide +kernel
theorem dX13_token_20 : decode cX13_token 20 = .ok (.aload_n 0, 1) := by decide +kernel
theorem dX13_token_21 : decode cX13_token 21 = .ok (.dup, 1) := by decide +kernel
theorem dX13_token_22 : decode cX13_token 22 = .ok (.getfield 140, 3) := by decide +kernel
theorem dX13_token_25 : decode cX13_token 25 = .ok (.iconst 1, 1) := by decide +kernel
theorem dX13_token_26 : decode cX13_token 26 = .ok (.iadd, 1) := by decide +kernel
theorem dX13_token_27 : decode cX13_token 27 = .ok (.putfield 140, 3) := by decide +kernel
theorem dX13_token_30 : decode cX13_token 30 = .ok (.return_, 1) := by decide +kernel
theorem dX13_is_0 : decode cX13_is 0 = .ok (.aload_n 0, 1) := by decide +kernel
theorem dX13_is_1 : decode cX13_is 1 = .ok (.getfield 171, 3) := by decide +kernel
theorem dX13_is_4 : decode cX13_is 4 = .ok (.aload_n 0, 1) := by decide +kernel
theorem dX13_is_5 : decode cX13_is 5 = .ok (.getfield 140, 3) := by decide +kernel
theorem dX13_is_8 : decode cX13_is 8 = .ok (.if_icmp .ge 33, 3) := by decide +kernel
theorem dX13_is_11 : decode cX13_is 11 = .ok (.aload_n 0, 1) := by decide +kernel
theorem dX13_is_12 : decode cX13_is 12 = .ok (.getfield 71, 3) := by decide +kernel
theorem dX13_is_15 : decode cX13_is 15 = .ok (.aload_n 0, 1) := by decide +kernel
theorem dX13_is_16 : decode cX13_is 16 = .ok (.getfield 171, 3) := by decide +kernel
theorem dX13_is_19 : decode cX13_is 19 = .ok (.iaload, 1) := by decide +kernel
theorem dX13_is_20 : decode cX13_is 20 = .ok (.iconst 3, 1) := by decide +kernel
theorem dX13_is_21 : decode cX13_is 21 = .ok (.if_icmp .ne 20, 3) := by decide +kernel
theorem dX13_is_24 : decode cX13_is 24 = .ok (.aload_n 0, 1) := by decide +kernel
theorem dX13_is_25 : decode cX13_is 25 = .ok (.getfield 74, 3) := by decide +kernel
theorem dX13_is_28 : decode cX13_is 28 = .ok (.aload_n 0, 1) := by decide +kernel
theorem dX13_is_29 : decode cX13_is 29 = .ok (.getfield 171, 3) := by decide +kernel
theorem dX13_is_32 : decode cX13_is 32 = .ok (.iaload, 1) := by decide +kernel
theorem dX13_is_33 : decode cX13_is 33 = .ok (.iload_n 1, 1) := by decide +kernel
theorem dX13_is_34 : decode cX13_is 34 = .ok (.if_icmp .ne 7, 3) := by decide +kernel
theorem dX13_is_37 : decode cX13_is 37 = .ok (.iconst 1, 1) := by decide +kernel
theorem dX13_is_38 : decode cX13_is 38 = .ok (.goto 4, 3) := by decide +kernel
theorem dX13_is_41 : decode cX13_is 41 = .ok (.iconst 0, 1) := by decide +kernel
theorem dX13_is_42 : decode cX13_is 42 = .ok (.ireturn, 1) := by decide +kernel
theorem dX13_isWord_0 : decode cX13_isWord 0 = .ok (.aload_n 0, 1) := by decide +kernel
theorem dX13_isWord_1 : decode cX13_isWord 1 = .ok (.getfield 171, 3) := by decide +kernel
theorem dX13_isWord_4 : decode cX13_isWord 4 = .ok (.aload_n 0, 1) := by decide +kernel
theorem dX13_isWord_5 : decode cX13_isWord 5 = .ok (.getfield 140, 3) := by decide +kernel
theorem dX13_isWord_8 : decode cX13_isWord 8 = .ok (.if_icmp .ge 37, 3) := by decide +kernel
theorem dX13_isWord_11 : decode cX13_isWord 11 = .ok (.aload_n 0, 1) := by decide +kernel
theorem dX13_isWord_12 : decode cX13_isWord 12 = .ok (.getfield 71, 3) := by decide +kernel
theorem dX13_isWord_15 : decode cX13_isWord 15 = .ok (.aload_n 0, 1) := by decide +kernel
theorem dX13_isWord_16 : decode cX13_isWord 16 = .ok (.getfield 171, 3) := by decide +kernel
theorem dX13_isWord_19 : decode cX13_isWord 19 = .ok (.iaload, 1) := by decide +kernel
theorem dX13_isWord_20 : decode cX13_isWord 20 = .ok (.iconst 1, 1) := by decide +kernel
theorem dX13_isWord_21 : decode cX13_isWord 21 = .ok (.if_icmp .ne 24, 3) := by decide +kernel
theorem dX13_isWord_24 : decode cX13_isWord 24 = .ok (.aload_n 0, 1) := by decide +kernel
theorem dX13_isWord_25 : decode cX13_isWord 25 = .ok (.aload_n 0, 1) := by decide +kernel
theorem dX13_isWord_26 : decode cX13_isWord 26 = .ok (.getfield 74, 3) := by decide +kernel
theorem dX13_isWord_29 : decode cX13_isWord 29 = .ok (.aload_n 0, 1) := by decide +kernel
theorem dX13_isWord_30 : decode cX13_isWord 30 = .ok (.getfield 171, 3) := by decide +kernel
theorem dX13_isWord_33 : decode cX13_isWord 33 = .ok (.iaload, 1) := by decide +kernel
theorem dX13_isWord_34 : decode cX13_isWord 34 = .ok (.aload_n 1, 1) := by decide +kernel
theorem dX13_isWord_35 : decode cX13_isWord 35 = .ok (.invokevirtual 174, 3) := by decide +kernel
theorem dX13_isWord_38 : decode cX13_isWord 38 = .ok (.ifCond .eq 7, 3) := by decide +kernel
theorem dX13_isWord_41 : decode cX13_isWord 41 = .ok (.iconst 1, 1) := by decide +kernel
theorem dX13_isWord_42 : decode cX13_isWord 42 = .ok (.goto 4, 3) := by decide +kernel
theorem dX13_isWord_45 : decode cX13_isWord 45 = .ok (.iconst 0, 1) := by decide +kernel
theorem dX13_isWord_46 : decode cX13_isWord 46 = .ok (.ireturn, 1) := by decide +kernel
theorem dX13_expect_0 : decode cX13_expect 0 = .ok (.aload_n 0, 1) := by decide +kernel
theorem dX13_expect_1 : decode cX13_expect 1 = .ok (.iload_n 1, 1) := by decide +kernel
theorem dX13_expect_2 : decode cX13_expect 2 = .ok (.invokevirtual 178, 3) := by decide +kernel
theorem dX13_expect_5 : decode cX13_expect 5 = .ok (.ifCond .eq 16, 3) := by decide +kernel
theorem dX13_expect_8 : decode cX13_expect 8 = .ok (.aload_n 0, 1) := by decide +kernel
theorem dX13_expect_9 : decode cX13_expect 9 = .ok (.dup, 1) := by decide +kernel
theorem dX13_expect_10 : decode cX13_expect 10 = .ok (.getfield 171, 3) := by decide +kernel
theorem dX13_expect_13 : decode cX13_expect 13 = .ok (.iconst 1, 1) := by decide +kernel
theorem dX13_expect_14 : decode cX13_expect 14 = .ok (.iadd, 1) := by decide +kernel
theorem dX13_expect_15 : decode cX13_expect 15 = .ok (.putfield 171, 3) := by decide +kernel
theorem dX13_expect_18 : decode cX13_expect 18 = .ok (.goto 8, 3) := by decide +kernel
theorem dX13_expect_21 : decode cX13_expect 21 = .ok (.aload_n 0, 1) := by decide +kernel
theorem dX13_expect_22 : decode cX13_expect 22 = .ok (.iconst 1, 1) := by decide +kernel
theorem dX13_expect_23 : decode cX13_expect 23 = .ok (.putfield 181, 3) := by decide +kernel
theorem dX13_expect_26 : decode cX13_expect 26 = .ok (.return_, 1) := by decide +kernel
theorem dX13_readName_0 : decode cX13_readName 0 = .ok (.aload_n 0, 1) := by decide +kernel
theorem dX13_readName_1 : decode cX13_readName 1 = .ok (.getfield 171, 3) := by decide +kernel
theorem dX13_readName_4 : decode cX13_readName 4 = .ok (.aload_n 0, 1) := by decide +kernel
theorem dX13_readName_5 : decode cX13_readName 5 = .ok (.getfield 140, 3) := by decide +kernel
theorem dX13_readName_8 : decode cX13_readName 8 = .ok (.if_icmp .ge 43, 3) := by decide +kernel
theorem dX13_readName_11 : decode cX13_readName 11 = .ok (.aload_n 0, 1) := by decide +kernel
theorem dX13_readName_12 : decode cX13_readName 12 = .ok (.getfield 71, 3) := by decide +kernel
theorem dX13_readName_15 : decode cX13_readName 15 = .ok (.aload_n 0, 1) := by decide +kernel
theorem dX13_readName_16 : decode cX13_readName 16 = .ok (.getfield 171, 3) := by decide +kernel
theorem dX13_readName_19 : decode cX13_readName 19 = .ok (.iaload, 1) := by decide +kernel
theorem dX13_readName_20 : decode cX13_readName 20 = .ok (.iconst 1, 1) := by decide +kernel
theorem dX13_readName_21 : decode cX13_readName 21 = .ok (.if_icmp .ne 30, 3) := by decide +kernel
theorem dX13_readName_24 : decode cX13_readName 24 = .ok (.aload_n 0, 1) := by decide +kernel
theorem dX13_readName_25 : decode cX13_readName 25 = .ok (.ldc 184, 2) := by decide +kernel
theorem dX13_readName_27 : decode cX13_readName 27 = .ok (.invokevirtual 186, 3) := by decide +kernel
theorem dX13_readName_30 : decode cX13_readName 30 = .ok (.ifCond .ne 21, 3) := by decide +kernel
theorem dX13_readName_33 : decode cX13_readName 33 = .ok (.aload_n 0, 1) := by decide +kernel
theorem dX13_readName_34 : decode cX13_readName 34 = .ok (.ldc 190, 2) := by decide +kernel
theorem dX13_readName_36 : decode cX13_readName 36 = .ok (.invokevirtual 186, 3) := by decide +kernel
theorem dX13_readName_39 : decode cX13_readName 39 = .ok (.ifCond .ne 12, 3) := by decide +kernel
theorem dX13_readName_42 : decode cX13_readName 42 = .ok (.aload_n 0, 1) := by decide +kernel
theorem dX13_readName_43 : decode cX13_readName 43 = .ok (.ldc 192, 2) := by decide +kernel
theorem dX13_readName_45 : decode cX13_readName 45 = .ok (.invokevirtual 186, 3) := by decide +kernel
theorem dX13_readName_48 : decode cX13_readName 48 = .ok (.ifCond .eq 10, 3) := by decide +kernel
theorem dX13_readName_51 : decode cX13_readName 51 = .ok (.aload_n 0, 1) := by decide +kernel
theorem dX13_readName_52 : decode cX13_readName 52 = .ok (.iconst 1, 1) := by decide +kernel
theorem dX13_readName_53 : decode cX13_readName 53 = .ok (.putfield 181, 3) := by decide +kernel
theorem dX13_readName_56 : decode cX13_readName 56 = .ok (.iconst 0, 1) := by decide +kernel
theorem dX13_readName_57 : decode cX13_readName 57 = .ok (.ireturn, 1) := by decide +kernel
theorem dX13_readName_58 : decode cX13_readName 58 = .ok (.aload_n 0, 1) := by decide +kernel
theorem dX13_readName_59 : decode cX13_readName 59 = .ok (.dup, 1) := by decide +kernel
theorem dX13_readName_60 : decode cX13_readName 60 = .ok (.getfield 171, 3) := by decide +kernel
theorem dX13_readName_63 : decode cX13_readName 63 = .ok (.iconst 1, 1) := by decide +kernel
theorem dX13_readName_64 : decode cX13_readName 64 = .ok (.iadd, 1) := by decide +kernel
theorem dX13_readName_65 : decode cX13_readName 65 = .ok (.putfield 171, 3) := by decide +kernel
theorem dX13_readName_68 : decode cX13_readName 68 = .ok (.aload_n 0, 1) := by decide +kernel
theorem dX13_readName_69 : decode cX13_readName 69 = .ok (.getfield 74, 3) := by decide +kernel
theorem dX13_readName_72 : decode cX13_readName 72 = .ok (.aload_n 0, 1) := by decide +kernel
theorem dX13_readName_73 : decode cX13_readName 73 = .ok (.getfield 171, 3) := by decide +kernel
theorem dX13_readName_76 : decode cX13_readName 76 = .ok (.iconst 1, 1) := by decide +kernel
theorem dX13_readName_77 : decode cX13_readName 77 = .ok (.isub, 1) := by decide +kernel
theorem dX13_readName_78 : decode cX13_readName 78 = .ok (.iaload, 1) := by decide +kernel
theorem dX13_readName_79 : decode cX13_readName 79 = .ok (.ireturn, 1) := by decide +kernel
theorem dX13_readNumber_0 : decode cX13_readNumber 0 = .ok (.aload_n 0, 1) := by decide +kernel
theorem dX13_readNumber_1 : decode cX13_readNumber 1 = .ok (.getfield 171, 3) := by decide +kernel
theorem dX13_readNumber_4 : decode cX13_readNumber 4 = .ok (.aload_n 0, 1) := by decide +kernel
theorem dX13_readNumber_5 : decode cX13_readNumber 5 = .ok (.getfield 140, 3) := by decide +kernel
theorem dX13_readNumber_8 : decode cX13_readNumber 8 = .ok (.if_icmp .ge 29, 3) := by decide +kernel
theorem dX13_readNumber_11 : decode cX13_readNumber 11 = .ok (.aload_n 0, 1) := by decide +kernel
theorem dX13_readNumber_12 : decode cX13_readNumber 12 = .ok (.getfield 71, 3) := by decide +kernel
theorem dX13_readNumber_15 : decode cX13_readNumber 15 = .ok (.aload_n 0, 1) := by decide +kernel
theorem dX13_readNumber_16 : decode cX13_readNumber 16 = .ok (.getfield 171, 3) := by decide +kernel
theorem dX13_readNumber_19 : decode cX13_readNumber 19 = .ok (.iaload, 1) := by decide +kernel
theorem dX13_readNumber_20 : decode cX13_readNumber 20 = .ok (.iconst 2, 1) := by decide +kernel
theorem dX13_readNumber_21 : decode cX13_readNumber 21 = .ok (.if_icmp .ne 16, 3) := by decide +kernel
theorem dX13_readNumber_24 : decode cX13_readNumber 24 = .ok (.aload_n 0, 1) := by decide +kernel
theorem dX13_readNumber_25 : decode cX13_readNumber 25 = .ok (.getfield 74, 3) := by decide +kernel
theorem dX13_readNumber_28 : decode cX13_readNumber 28 = .ok (.aload_n 0, 1) := by decide +kernel
theorem dX13_readNumber_29 : decode cX13_readNumber 29 = .ok (.getfield 171, 3) := by decide +kernel
theorem dX13_readNumber_32 : decode cX13_readNumber 32 = .ok (.iaload, 1) := by decide +kernel
theorem dX13_readNumber_33 : decode cX13_readNumber 33 = .ok (.iconst 3, 1) := by decide +kernel
theorem dX13_readNumber_34 : decode cX13_readNumber 34 = .ok (.if_icmp .le 10, 3) := by decide +kernel
theorem dX13_readNumber_37 : decode cX13_readNumber 37 = .ok (.aload_n 0, 1) := by decide +kernel
theorem dX13_readNumber_38 : decode cX13_readNumber 38 = .ok (.iconst 1, 1) := by decide +kernel
theorem dX13_readNumber_39 : decode cX13_readNumber 39 = .ok (.putfield 181, 3) := by decide +kernel
theorem dX13_readNumber_42 : decode cX13_readNumber 42 = .ok (.iconst 0, 1) := by decide +kernel
theorem dX13_readNumber_43 : decode cX13_readNumber 43 = .ok (.ireturn, 1) := by decide +kernel
theorem dX13_readNumber_44 : decode cX13_readNumber 44 = .ok (.aload_n 0, 1) := by decide +kernel
theorem dX13_readNumber_45 : decode cX13_readNumber 45 = .ok (.dup, 1) := by decide +kernel
theorem dX13_readNumber_46 : decode cX13_readNumber 46 = .ok (.getfield 171, 3) := by decide +kernel
theorem dX13_readNumber_49 : decode cX13_readNumber 49 = .ok (.iconst 1, 1) := by decide +kernel
theorem dX13_readNumber_50 : decode cX13_readNumber 50 = .ok (.iadd, 1) := by decide +kernel
theorem dX13_readNumber_51 : decode cX13_readNumber 51 = .ok (.putfield 171, 3) := by decide +kernel
theorem dX13_readNumber_54 : decode cX13_readNumber 54 = .ok (.aload_n 0, 1) := by decide +kernel
theorem dX13_readNumber_55 : decode cX13_readNumber 55 = .ok (.getfield 74, 3) := by decide +kernel
theorem dX13_readNumber_58 : decode cX13_readNumber 58 = .ok (.aload_n 0, 1) := by decide +kernel
theorem dX13_readNumber_59 : decode cX13_readNumber 59 = .ok (.getfield 171, 3) := by decide +kernel
theorem dX13_readNumber_62 : decode cX13_readNumber 62 = .ok (.iconst 1, 1) := by decide +kernel
theorem dX13_readNumber_63 : decode cX13_readNumber 63 = .ok (.isub, 1) := by decide +kernel
theorem dX13_readNumber_64 : decode cX13_readNumber 64 = .ok (.iaload, 1) := by decide +kernel
theorem dX13_readNumber_65 : decode cX13_readNumber 65 = .ok (.ireturn, 1) := by decide +kernel
theorem dX13_fails_0 : decode cX13_fails 0 = .ok (.aload_n 0, 1) := by decide +kernel
theorem dX13_fails_1 : decode cX13_fails 1 = .ok (.getfield 221, 3) := by decide +kernel
theorem dX13_fails_4 : decode cX13_fails 4 = .ok (.ifCond .ne 8, 3) := by decide +kernel
theorem dX13_fails_7 : decode cX13_fails 7 = .ok (.aload_n 0, 1) := by decide +kernel
theorem dX13_fails_8 : decode cX13_fails 8 = .ok (.iload_n 1, 1) := by decide +kernel
theorem dX13_fails_9 : decode cX13_fails 9 = .ok (.putfield 221, 3) := by decide +kernel
theorem dX13_fails_12 : decode cX13_fails 12 = .ok (.return_, 1) := by decide +kernel
theorem dX13_symbolOf_0 : decode cX13_symbolOf 0 = .ok (.iconst 0, 1) := by decide +kernel
theorem dX13_symbolOf_1 : decode cX13_symbolOf 1 = .ok (.istore_n 2, 1) := by decide +kernel
theorem dX13_symbolOf_2 : decode cX13_symbolOf 2 = .ok (.iload_n 2, 1) := by decide +kernel
theorem dX13_symbolOf_3 : decode cX13_symbolOf 3 = .ok (.aload_n 0, 1) := by decide +kernel
theorem dX13_symbolOf_4 : decode cX13_symbolOf 4 = .ok (.getfield 109, 3) := by decide +kernel
theorem dX13_symbolOf_7 : decode cX13_symbolOf 7 = .ok (.if_icmp .ge 21, 3) := by decide +kernel
theorem dX13_symbolOf_10 : decode cX13_symbolOf 10 = .ok (.aload_n 0, 1) := by decide +kernel
theorem dX13_symbolOf_11 : decode cX13_symbolOf 11 = .ok (.getfield 37, 3) := by decide +kernel
theorem dX13_symbolOf_14 : decode cX13_symbolOf 14 = .ok (.iload_n 2, 1) := by decide +kernel
theorem dX13_symbolOf_15 : decode cX13_symbolOf 15 = .ok (.iaload, 1) := by decide +kernel
theorem dX13_symbolOf_16 : decode cX13_symbolOf 16 = .ok (.iload_n 1, 1) := by decide +kernel
theorem dX13_symbolOf_17 : decode cX13_symbolOf 17 = .ok (.if_icmp .ne 5, 3) := by decide +kernel
theorem dX13_symbolOf_20 : decode cX13_symbolOf 20 = .ok (.iload_n 2, 1) := by decide +kernel
theorem dX13_symbolOf_21 : decode cX13_symbolOf 21 = .ok (.ireturn, 1) := by decide +kernel
theorem dX13_symbolOf_22 : decode cX13_symbolOf 22 = .ok (.iinc 2 1, 3) := by decide +kernel
theorem dX13_symbolOf_25 : decode cX13_symbolOf 25 = .ok (.goto (-23), 3) := by decide +kernel
theorem dX13_symbolOf_28 : decode cX13_symbolOf 28 = .ok (.iconst (-1), 1) := by decide +kernel
theorem dX13_symbolOf_29 : decode cX13_symbolOf 29 = .ok (.ireturn, 1) := by decide +kernel
theorem dX13_factOf_0 : decode cX13_factOf 0 = .ok (.iconst 0, 1) := by decide +kernel
theorem dX13_factOf_1 : decode cX13_factOf 1 = .ok (.istore_n 2, 1) := by decide +kernel
theorem dX13_factOf_2 : decode cX13_factOf 2 = .ok (.iload_n 2, 1) := by decide +kernel
theorem dX13_factOf_3 : decode cX13_factOf 3 = .ok (.aload_n 0, 1) := by decide +kernel
theorem dX13_factOf_4 : decode cX13_factOf 4 = .ok (.getfield 112, 3) := by decide +kernel
theorem dX13_factOf_7 : decode cX13_factOf 7 = .ok (.if_icmp .ge 21, 3) := by decide +kernel
theorem dX13_factOf_10 : decode cX13_factOf 10 = .ok (.aload_n 0, 1) := by decide +kernel
theorem dX13_factOf_11 : decode cX13_factOf 11 = .ok (.getfield 47, 3) := by decide +kernel
theorem dX13_factOf_14 : decode cX13_factOf 14 = .ok (.iload_n 2, 1) := by decide +kernel
theorem dX13_factOf_15 : decode cX13_factOf 15 = .ok (.iaload, 1) := by decide +kernel
theorem dX13_factOf_16 : decode cX13_factOf 16 = .ok (.iload_n 1, 1) := by decide +kernel
theorem dX13_factOf_17 : decode cX13_factOf 17 = .ok (.if_icmp .ne 5, 3) := by decide +kernel
theorem dX13_factOf_20 : decode cX13_factOf 20 = .ok (.iload_n 2, 1) := by decide +kernel
theorem dX13_factOf_21 : decode cX13_factOf 21 = .ok (.ireturn, 1) := by decide +kernel
theorem dX13_factOf_22 : decode cX13_factOf 22 = .ok (.iinc 2 1, 3) := by decide +kernel
theorem dX13_factOf_25 : decode cX13_factOf 25 = .ok (.goto (-23), 3) := by decide +kernel
theorem dX13_factOf_28 : decode cX13_factOf 28 = .ok (.iconst (-1), 1) := by decide +kernel
theorem dX13_factOf_29 : decode cX13_factOf 29 = .ok (.ireturn, 1) := by decide +kernel
theorem dX13_isVariable_0 : decode cX13_isVariable 0 = .ok (.iconst 0, 1) := by decide +kernel
theorem dX13_isVariable_1 : decode cX13_isVariable 1 = .ok (.istore_n 2, 1) := by decide +kernel
theorem dX13_isVariable_2 : decode cX13_isVariable 2 = .ok (.aload_n 0, 1) := by decide +kernel
theorem dX13_isVariable_3 : decode cX13_isVariable 3 = .ok (.getfield 119, 3) := by decide +kernel
theorem dX13_isVariable_6 : decode cX13_isVariable 6 = .ok (.ifCond .le 31, 3) := by decide +kernel
theorem dX13_isVariable_9 : decode cX13_isVariable 9 = .ok (.iload_n 2, 1) := by decide +kernel
theorem dX13_isVariable_10 : decode cX13_isVariable 10 = .ok (.aload_n 0, 1) := by decide +kernel
theorem dX13_isVariable_11 : decode cX13_isVariable 11 = .ok (.getfield 56, 3) := by decide +kernel
theorem dX13_isVariable_14 : decode cX13_isVariable 14 = .ok (.iconst 0, 1) := by decide +kernel
theorem dX13_isVariable_15 : decode cX13_isVariable 15 = .ok (.iaload, 1) := by decide +kernel
theorem dX13_isVariable_16 : decode cX13_isVariable 16 = .ok (.if_icmp .ge 21, 3) := by decide +kernel
theorem dX13_isVariable_19 : decode cX13_isVariable 19 = .ok (.aload_n 0, 1) := by decide +kernel
theorem dX13_isVariable_20 : decode cX13_isVariable 20 = .ok (.getfield 59, 3) := by decide +kernel
theorem dX13_isVariable_23 : decode cX13_isVariable 23 = .ok (.iload_n 2, 1) := by decide +kernel
theorem dX13_isVariable_24 : decode cX13_isVariable 24 = .ok (.iaload, 1) := by decide +kernel
theorem dX13_isVariable_25 : decode cX13_isVariable 25 = .ok (.iload_n 1, 1) := by decide +kernel
theorem dX13_isVariable_26 : decode cX13_isVariable 26 = .ok (.if_icmp .ne 5, 3) := by decide +kernel
theorem dX13_isVariable_29 : decode cX13_isVariable 29 = .ok (.iconst 1, 1) := by decide +kernel
theorem dX13_isVariable_30 : decode cX13_isVariable 30 = .ok (.ireturn, 1) := by decide +kernel
theorem dX13_isVariable_31 : decode cX13_isVariable 31 = .ok (.iinc 2 1, 3) := by decide +kernel
theorem dX13_isVariable_34 : decode cX13_isVariable 34 = .ok (.goto (-32), 3) := by decide +kernel
theorem dX13_isVariable_37 : decode cX13_isVariable 37 = .ok (.iconst 0, 1) := by decide +kernel
theorem dX13_isVariable_38 : decode cX13_isVariable 38 = .ok (.ireturn, 1) := by decide +kernel
theorem dX13_hypOf_0 : decode cX13_hypOf 0 = .ok (.iconst 0, 1) := by decide +kernel
theorem dX13_hypOf_1 : decode cX13_hypOf 1 = .ok (.istore_n 2, 1) := by decide +kernel
theorem dX13_hypOf_2 : decode cX13_hypOf 2 = .ok (.aload_n 0, 1) := by decide +kernel
theorem dX13_hypOf_3 : decode cX13_hypOf 3 = .ok (.getfield 119, 3) := by decide +kernel
theorem dX13_hypOf_6 : decode cX13_hypOf 6 = .ok (.ifCond .le 31, 3) := by decide +kernel
theorem dX13_hypOf_9 : decode cX13_hypOf 9 = .ok (.iload_n 2, 1) := by decide +kernel
theorem dX13_hypOf_10 : decode cX13_hypOf 10 = .ok (.aload_n 0, 1) := by decide +kernel
theorem dX13_hypOf_11 : decode cX13_hypOf 11 = .ok (.getfield 62, 3) := by decide +kernel
theorem dX13_hypOf_14 : decode cX13_hypOf 14 = .ok (.iconst 0, 1) := by decide +kernel
theorem dX13_hypOf_15 : decode cX13_hypOf 15 = .ok (.iaload, 1) := by decide +kernel
theorem dX13_hypOf_16 : decode cX13_hypOf 16 = .ok (.if_icmp .ge 21, 3) := by decide +kernel
theorem dX13_hypOf_19 : decode cX13_hypOf 19 = .ok (.aload_n 0, 1) := by decide +kernel
theorem dX13_hypOf_20 : decode cX13_hypOf 20 = .ok (.getfield 65, 3) := by decide +kernel
theorem dX13_hypOf_23 : decode cX13_hypOf 23 = .ok (.iload_n 2, 1) := by decide +kernel
theorem dX13_hypOf_24 : decode cX13_hypOf 24 = .ok (.iaload, 1) := by decide +kernel
theorem dX13_hypOf_25 : decode cX13_hypOf 25 = .ok (.iload_n 1, 1) := by decide +kernel
theorem dX13_hypOf_26 : decode cX13_hypOf 26 = .ok (.if_icmp .ne 5, 3) := by decide +kernel
theorem dX13_hypOf_29 : decode cX13_hypOf 29 = .ok (.iload_n 2, 1) := by decide +kernel
theorem dX13_hypOf_30 : decode cX13_hypOf 30 = .ok (.ireturn, 1) := by decide +kernel
theorem dX13_hypOf_31 : decode cX13_hypOf 31 = .ok (.iinc 2 1, 3) := by decide +kernel
theorem dX13_hypOf_34 : decode cX13_hypOf 34 = .ok (.goto (-32), 3) := by decide +kernel
theorem dX13_hypOf_37 : decode cX13_hypOf 37 = .ok (.iconst (-1), 1) := by decide +kernel
theorem dX13_hypOf_38 : decode cX13_hypOf 38 = .ok (.ireturn, 1) := by decide +kernel
theorem dX13_checkNew_0 : decode cX13_checkNew 0 = .ok (.aload_n 0, 1) := by decide +kernel
theorem dX13_checkNew_1 : decode cX13_checkNew 1 = .ok (.iload_n 1, 1) := by decide +kernel
theorem dX13_checkNew_2 : decode cX13_checkNew 2 = .ok (.invokevirtual 224, 3) := by decide +kernel
theorem dX13_checkNew_5 : decode cX13_checkNew 5 = .ok (.ifCond .ge 27, 3) := by decide +kernel
theorem dX13_checkNew_8 : decode cX13_checkNew 8 = .ok (.aload_n 0, 1) := by decide +kernel
theorem dX13_checkNew_9 : decode cX13_checkNew 9 = .ok (.iload_n 1, 1) := by decide +kernel
theorem dX13_checkNew_10 : decode cX13_checkNew 10 = .ok (.invokevirtual 227, 3) := by decide +kernel
theorem dX13_checkNew_13 : decode cX13_checkNew 13 = .ok (.ifCond .ge 19, 3) := by decide +kernel
theorem dX13_checkNew_16 : decode cX13_checkNew 16 = .ok (.aload_n 0, 1) := by decide +kernel
theorem dX13_checkNew_17 : decode cX13_checkNew 17 = .ok (.iload_n 1, 1) := by decide +kernel
theorem dX13_checkNew_18 : decode cX13_checkNew 18 = .ok (.invokevirtual 230, 3) := by decide +kernel
theorem dX13_checkNew_21 : decode cX13_checkNew 21 = .ok (.ifCond .ne 11, 3) := by decide +kernel
theorem dX13_checkNew_24 : decode cX13_checkNew 24 = .ok (.aload_n 0, 1) := by decide +kernel
theorem dX13_checkNew_25 : decode cX13_checkNew 25 = .ok (.iload_n 1, 1) := by decide +kernel
theorem dX13_checkNew_26 : decode cX13_checkNew 26 = .ok (.invokevirtual 233, 3) := by decide +kernel
theorem dX13_checkNew_29 : decode cX13_checkNew 29 = .ok (.ifCond .lt 9, 3) := by decide +kernel
theorem dX13_checkNew_32 : decode cX13_checkNew 32 = .ok (.aload_n 0, 1) := by decide +kernel
theorem dX13_checkNew_33 : decode cX13_checkNew 33 = .ok (.bipush 6, 2) := by decide +kernel
theorem dX13_checkNew_35 : decode cX13_checkNew 35 = .ok (.invokevirtual 236, 3) := by decide +kernel
theorem dX13_checkNew_38 : decode cX13_checkNew 38 = .ok (.return_, 1) := by decide +kernel
theorem dX13_formulaOf_0 : decode cX13_formulaOf 0 = .ok (.aload_n 0, 1) := by decide +kernel
theorem dX13_formulaOf_1 : decode cX13_formulaOf 1 = .ok (.iload_n 1, 1) := by decide +kernel
theorem dX13_formulaOf_2 : decode cX13_formulaOf 2 = .ok (.invokevirtual 233, 3) := by decide +kernel
theorem dX13_formulaOf_5 : decode cX13_formulaOf 5 = .ok (.istore_n 2, 1) := by decide +kernel
theorem dX13_formulaOf_6 : decode cX13_formulaOf 6 = .ok (.iload_n 2, 1) := by decide +kernel
theorem dX13_formulaOf_7 : decode cX13_formulaOf 7 = .ok (.ifCond .lt 10, 3) := by decide +kernel
theorem dX13_formulaOf_10 : decode cX13_formulaOf 10 = .ok (.aload_n 0, 1) := by decide +kernel
theorem dX13_formulaOf_11 : decode cX13_formulaOf 11 = .ok (.getfield 68, 3) := by decide +kernel
theorem dX13_formulaOf_14 : decode cX13_formulaOf 14 = .ok (.iload_n 2, 1) := by decide +kernel
theorem dX13_formulaOf_15 : decode cX13_formulaOf 15 = .ok (.iaload, 1) := by decide +kernel
theorem dX13_formulaOf_16 : decode cX13_formulaOf 16 = .ok (.ireturn, 1) := by decide +kernel
theorem dX13_formulaOf_17 : decode cX13_formulaOf 17 = .ok (.aload_n 0, 1) := by decide +kernel
theorem dX13_formulaOf_18 : decode cX13_formulaOf 18 = .ok (.iload_n 1, 1) := by decide +kernel
theorem dX13_formulaOf_19 : decode cX13_formulaOf 19 = .ok (.invokevirtual 227, 3) := by decide +kernel
theorem dX13_formulaOf_22 : decode cX13_formulaOf 22 = .ok (.istore_n 3, 1) := by decide +kernel
theorem dX13_formulaOf_23 : decode cX13_formulaOf 23 = .ok (.iload_n 3, 1) := by decide +kernel
theorem dX13_formulaOf_24 : decode cX13_formulaOf 24 = .ok (.ifCond .ge 8, 3) := by decide +kernel
theorem dX13_formulaOf_27 : decode cX13_formulaOf 27 = .ok (.aload_n 0, 1) := by decide +kernel
theorem dX13_formulaOf_28 : decode cX13_formulaOf 28 = .ok (.iconst 5, 1) := by decide +kernel
theorem dX13_formulaOf_29 : decode cX13_formulaOf 29 = .ok (.invokevirtual 236, 3) := by decide +kernel
theorem dX13_formulaOf_32 : decode cX13_formulaOf 32 = .ok (.iload_n 3, 1) := by decide +kernel
theorem dX13_formulaOf_33 : decode cX13_formulaOf 33 = .ok (.ifCond .ge 7, 3) := by decide +kernel
theorem dX13_formulaOf_36 : decode cX13_formulaOf 36 = .ok (.iconst 0, 1) := by decide +kernel
theorem dX13_formulaOf_37 : decode cX13_formulaOf 37 = .ok (.goto 9, 3) := by decide +kernel
theorem dX13_formulaOf_40 : decode cX13_formulaOf 40 = .ok (.aload_n 0, 1) := by decide +kernel
theorem dX13_formulaOf_41 : decode cX13_formulaOf 41 = .ok (.getfield 50, 3) := by decide +kernel
theorem dX13_formulaOf_44 : decode cX13_formulaOf 44 = .ok (.iload_n 3, 1) := by decide +kernel
theorem dX13_formulaOf_45 : decode cX13_formulaOf 45 = .ok (.iaload, 1) := by decide +kernel
theorem dX13_formulaOf_46 : decode cX13_formulaOf 46 = .ok (.ireturn, 1) := by decide +kernel
theorem dX13_addFact_0 : decode cX13_addFact 0 = .ok (.aload_n 0, 1) := by decide +kernel
theorem dX13_addFact_1 : decode cX13_addFact 1 = .ok (.getfield 47, 3) := by decide +kernel
theorem dX13_addFact_4 : decode cX13_addFact 4 = .ok (.aload_n 0, 1) := by decide +kernel
theorem dX13_addFact_5 : decode cX13_addFact 5 = .ok (.getfield 112, 3) := by decide +kernel
theorem dX13_addFact_8 : decode cX13_addFact 8 = .ok (.iload_n 1, 1) := by decide +kernel
theorem dX13_addFact_9 : decode cX13_addFact 9 = .ok (.iastore, 1) := by decide +kernel
theorem dX13_addFact_10 : decode cX13_addFact 10 = .ok (.aload_n 0, 1) := by decide +kernel
theorem dX13_addFact_11 : decode cX13_addFact 11 = .ok (.getfield 50, 3) := by decide +kernel
theorem dX13_addFact_14 : decode cX13_addFact 14 = .ok (.aload_n 0, 1) := by decide +kernel
theorem dX13_addFact_15 : decode cX13_addFact 15 = .ok (.getfield 112, 3) := by decide +kernel
theorem dX13_addFact_18 : decode cX13_addFact 18 = .ok (.iload_n 2, 1) := by decide +kernel
theorem dX13_addFact_19 : decode cX13_addFact 19 = .ok (.iastore, 1) := by decide +kernel
theorem dX13_addFact_20 : decode cX13_addFact 20 = .ok (.aload_n 0, 1) := by decide +kernel
theorem dX13_addFact_21 : decode cX13_addFact 21 = .ok (.dup, 1) := by decide +kernel
theorem dX13_addFact_22 : decode cX13_addFact 22 = .ok (.getfield 112, 3) := by decide +kernel
theorem dX13_addFact_25 : decode cX13_addFact 25 = .ok (.iconst 1, 1) := by decide +kernel
theorem dX13_addFact_26 : decode cX13_addFact 26 = .ok (.iadd, 1) := by decide +kernel
theorem dX13_addFact_27 : decode cX13_addFact 27 = .ok (.putfield 112, 3) := by decide +kernel
theorem dX13_addFact_30 : decode cX13_addFact 30 = .ok (.return_, 1) := by decide +kernel
theorem dX13_close_0 : decode cX13_close 0 = .ok (.iload_n 1, 1) := by decide +kernel
theorem dX13_close_1 : decode cX13_close 1 = .ok (.iconst 4, 1) := by decide +kernel
theorem dX13_close_2 : decode cX13_close 2 = .ok (.if_icmp .ne 51, 3) := by decide +kernel
theorem dX13_close_5 : decode cX13_close 5 = .ok (.aload_n 0, 1) := by decide +kernel
theorem dX13_close_6 : decode cX13_close 6 = .ok (.getfield 119, 3) := by decide +kernel
theorem dX13_close_9 : decode cX13_close 9 = .ok (.ifCond .le 9, 3) := by decide +kernel
theorem dX13_close_12 : decode cX13_close 12 = .ok (.aload_n 0, 1) := by decide +kernel
theorem dX13_close_13 : decode cX13_close 13 = .ok (.bipush 7, 2) := by decide +kernel
theorem dX13_close_15 : decode cX13_close 15 = .ok (.invokevirtual 236, 3) := by decide +kernel
theorem dX13_close_18 : decode cX13_close 18 = .ok (.aload_n 0, 1) := by decide +kernel
theorem dX13_close_19 : decode cX13_close 19 = .ok (.getfield 112, 3) := by decide +kernel
theorem dX13_close_22 : decode cX13_close 22 = .ok (.bipush 16, 2) := by decide +kernel
theorem dX13_close_24 : decode cX13_close 24 = .ok (.if_icmp .ne 9, 3) := by decide +kernel
theorem dX13_close_27 : decode cX13_close 27 = .ok (.aload_n 0, 1) := by decide +kernel
theorem dX13_close_28 : decode cX13_close 28 = .ok (.bipush 9, 2) := by decide +kernel
theorem dX13_close_30 : decode cX13_close 30 = .ok (.invokevirtual 236, 3) := by decide +kernel
theorem dX13_close_33 : decode cX13_close 33 = .ok (.aload_n 0, 1) := by decide +kernel
theorem dX13_close_34 : decode cX13_close 34 = .ok (.getfield 221, 3) := by decide +kernel
theorem dX13_close_37 : decode cX13_close 37 = .ok (.ifCond .le 4, 3) := by decide +kernel
theorem dX13_close_40 : decode cX13_close 40 = .ok (.return_, 1) := by decide +kernel
theorem dX13_close_41 : decode cX13_close 41 = .ok (.aload_n 0, 1) := by decide +kernel
theorem dX13_close_42 : decode cX13_close 42 = .ok (.aload_n 0, 1) := by decide +kernel
theorem dX13_close_43 : decode cX13_close 43 = .ok (.getfield 330, 3) := by decide +kernel
theorem dX13_close_46 : decode cX13_close 46 = .ok (.aload_n 0, 1) := by decide +kernel
theorem dX13_close_47 : decode cX13_close 47 = .ok (.getfield 333, 3) := by decide +kernel
theorem dX13_close_50 : decode cX13_close 50 = .ok (.invokevirtual 327, 3) := by decide +kernel
theorem dX13_close_53 : decode cX13_close 53 = .ok (.aload_n 0, 1) := by decide +kernel
theorem dX13_close_54 : decode cX13_close 54 = .ok (.iconst 0, 1) := by decide +kernel
theorem dX13_close_55 : decode cX13_close 55 = .ok (.putfield 115, 3) := by decide +kernel
theorem dX13_close_58 : decode cX13_close 58 = .ok (.aload_n 0, 1) := by decide +kernel
theorem dX13_close_59 : decode cX13_close 59 = .ok (.iconst 0, 1) := by decide +kernel
theorem dX13_close_60 : decode cX13_close 60 = .ok (.putfield 119, 3) := by decide +kernel
theorem dX13_close_63 : decode cX13_close 63 = .ok (.return_, 1) := by decide +kernel
theorem dX13_copyGoal_0 : decode cX13_copyGoal 0 = .ok (.aload_n 0, 1) := by decide +kernel
theorem dX13_copyGoal_1 : decode cX13_copyGoal 1 = .ok (.getfield 53, 3) := by decide +kernel
theorem dX13_copyGoal_4 : decode cX13_copyGoal 4 = .ok (.iload_n 2, 1) := by decide +kernel
theorem dX13_copyGoal_5 : decode cX13_copyGoal 5 = .ok (.aload_n 0, 1) := by decide +kernel
theorem dX13_copyGoal_6 : decode cX13_copyGoal 6 = .ok (.getfield 53, 3) := by decide +kernel
theorem dX13_copyGoal_9 : decode cX13_copyGoal 9 = .ok (.iload_n 1, 1) := by decide +kernel
theorem dX13_copyGoal_10 : decode cX13_copyGoal 10 = .ok (.iaload, 1) := by decide +kernel
theorem dX13_copyGoal_11 : decode cX13_copyGoal 11 = .ok (.iastore, 1) := by decide +kernel
theorem dX13_copyGoal_12 : decode cX13_copyGoal 12 = .ok (.aload_n 0, 1) := by decide +kernel
theorem dX13_copyGoal_13 : decode cX13_copyGoal 13 = .ok (.getfield 56, 3) := by decide +kernel
theorem dX13_copyGoal_16 : decode cX13_copyGoal 16 = .ok (.iload_n 2, 1) := by decide +kernel
theorem dX13_copyGoal_17 : decode cX13_copyGoal 17 = .ok (.aload_n 0, 1) := by decide +kernel
theorem dX13_copyGoal_18 : decode cX13_copyGoal 18 = .ok (.getfield 56, 3) := by decide +kernel
theorem dX13_copyGoal_21 : decode cX13_copyGoal 21 = .ok (.iload_n 1, 1) := by decide +kernel
theorem dX13_copyGoal_22 : decode cX13_copyGoal 22 = .ok (.iaload, 1) := by decide +kernel
theorem dX13_copyGoal_23 : decode cX13_copyGoal 23 = .ok (.iastore, 1) := by decide +kernel
theorem dX13_copyGoal_24 : decode cX13_copyGoal 24 = .ok (.aload_n 0, 1) := by decide +kernel
theorem dX13_copyGoal_25 : decode cX13_copyGoal 25 = .ok (.getfield 62, 3) := by decide +kernel
theorem dX13_copyGoal_28 : decode cX13_copyGoal 28 = .ok (.iload_n 2, 1) := by decide +kernel
theorem dX13_copyGoal_29 : decode cX13_copyGoal 29 = .ok (.aload_n 0, 1) := by decide +kernel
theorem dX13_copyGoal_30 : decode cX13_copyGoal 30 = .ok (.getfield 62, 3) := by decide +kernel
theorem dX13_copyGoal_33 : decode cX13_copyGoal 33 = .ok (.iload_n 1, 1) := by decide +kernel
theorem dX13_copyGoal_34 : decode cX13_copyGoal 34 = .ok (.iaload, 1) := by decide +kernel
theorem dX13_copyGoal_35 : decode cX13_copyGoal 35 = .ok (.iastore, 1) := by decide +kernel
theorem dX13_copyGoal_36 : decode cX13_copyGoal 36 = .ok (.iconst 0, 1) := by decide +kernel
theorem dX13_copyGoal_37 : decode cX13_copyGoal 37 = .ok (.istore_n 3, 1) := by decide +kernel
theorem dX13_copyGoal_38 : decode cX13_copyGoal 38 = .ok (.iload_n 3, 1) := by decide +kernel
theorem dX13_copyGoal_39 : decode cX13_copyGoal 39 = .ok (.bipush 6, 2) := by decide +kernel
theorem dX13_copyGoal_41 : decode cX13_copyGoal 41 = .ok (.if_icmp .ge 31, 3) := by decide +kernel
theorem dX13_copyGoal_44 : decode cX13_copyGoal 44 = .ok (.aload_n 0, 1) := by decide +kernel
theorem dX13_copyGoal_45 : decode cX13_copyGoal 45 = .ok (.getfield 59, 3) := by decide +kernel
theorem dX13_copyGoal_48 : decode cX13_copyGoal 48 = .ok (.bipush 6, 2) := by decide +kernel
theorem dX13_copyGoal_50 : decode cX13_copyGoal 50 = .ok (.iload_n 2, 1) := by decide +kernel
theorem dX13_copyGoal_51 : decode cX13_copyGoal 51 = .ok (.imul, 1) := by decide +kernel
theorem dX13_copyGoal_52 : decode cX13_copyGoal 52 = .ok (.iload_n 3, 1) := by decide +kernel
theorem dX13_copyGoal_53 : decode cX13_copyGoal 53 = .ok (.iadd, 1) := by decide +kernel
theorem dX13_copyGoal_54 : decode cX13_copyGoal 54 = .ok (.aload_n 0, 1) := by decide +kernel
theorem dX13_copyGoal_55 : decode cX13_copyGoal 55 = .ok (.getfield 59, 3) := by decide +kernel
theorem dX13_copyGoal_58 : decode cX13_copyGoal 58 = .ok (.bipush 6, 2) := by decide +kernel
theorem dX13_copyGoal_60 : decode cX13_copyGoal 60 = .ok (.iload_n 1, 1) := by decide +kernel
theorem dX13_copyGoal_61 : decode cX13_copyGoal 61 = .ok (.imul, 1) := by decide +kernel
theorem dX13_copyGoal_62 : decode cX13_copyGoal 62 = .ok (.iload_n 3, 1) := by decide +kernel
theorem dX13_copyGoal_63 : decode cX13_copyGoal 63 = .ok (.iadd, 1) := by decide +kernel
theorem dX13_copyGoal_64 : decode cX13_copyGoal 64 = .ok (.iaload, 1) := by decide +kernel
theorem dX13_copyGoal_65 : decode cX13_copyGoal 65 = .ok (.iastore, 1) := by decide +kernel
theorem dX13_copyGoal_66 : decode cX13_copyGoal 66 = .ok (.iinc 3 1, 3) := by decide +kernel
theorem dX13_copyGoal_69 : decode cX13_copyGoal 69 = .ok (.goto (-31), 3) := by decide +kernel
theorem dX13_copyGoal_72 : decode cX13_copyGoal 72 = .ok (.iconst 0, 1) := by decide +kernel
theorem dX13_copyGoal_73 : decode cX13_copyGoal 73 = .ok (.istore_n 3, 1) := by decide +kernel
theorem dX13_copyGoal_74 : decode cX13_copyGoal 74 = .ok (.iload_n 3, 1) := by decide +kernel
theorem dX13_copyGoal_75 : decode cX13_copyGoal 75 = .ok (.bipush 8, 2) := by decide +kernel
theorem dX13_copyGoal_77 : decode cX13_copyGoal 77 = .ok (.if_icmp .ge 53, 3) := by decide +kernel
theorem dX13_copyGoal_80 : decode cX13_copyGoal 80 = .ok (.aload_n 0, 1) := by decide +kernel
theorem dX13_copyGoal_81 : decode cX13_copyGoal 81 = .ok (.getfield 65, 3) := by decide +kernel
theorem dX13_copyGoal_84 : decode cX13_copyGoal 84 = .ok (.bipush 8, 2) := by decide +kernel
theorem dX13_copyGoal_86 : decode cX13_copyGoal 86 = .ok (.iload_n 2, 1) := by decide +kernel
theorem dX13_copyGoal_87 : decode cX13_copyGoal 87 = .ok (.imul, 1) := by decide +kernel
theorem dX13_copyGoal_88 : decode cX13_copyGoal 88 = .ok (.iload_n 3, 1) := by decide +kernel
theorem dX13_copyGoal_89 : decode cX13_copyGoal 89 = .ok (.iadd, 1) := by decide +kernel
theorem dX13_copyGoal_90 : decode cX13_copyGoal 90 = .ok (.aload_n 0, 1) := by decide +kernel
theorem dX13_copyGoal_91 : decode cX13_copyGoal 91 = .ok (.getfield 65, 3) := by decide +kernel
theorem dX13_copyGoal_94 : decode cX13_copyGoal 94 = .ok (.bipush 8, 2) := by decide +kernel
theorem dX13_copyGoal_96 : decode cX13_copyGoal 96 = .ok (.iload_n 1, 1) := by decide +kernel
theorem dX13_copyGoal_97 : decode cX13_copyGoal 97 = .ok (.imul, 1) := by decide +kernel
theorem dX13_copyGoal_98 : decode cX13_copyGoal 98 = .ok (.iload_n 3, 1) := by decide +kernel
theorem dX13_copyGoal_99 : decode cX13_copyGoal 99 = .ok (.iadd, 1) := by decide +kernel
theorem dX13_copyGoal_100 : decode cX13_copyGoal 100 = .ok (.iaload, 1) := by decide +kernel
theorem dX13_copyGoal_101 : decode cX13_copyGoal 101 = .ok (.iastore, 1) := by decide +kernel
theorem dX13_copyGoal_102 : decode cX13_copyGoal 102 = .ok (.aload_n 0, 1) := by decide +kernel
theorem dX13_copyGoal_103 : decode cX13_copyGoal 103 = .ok (.getfield 68, 3) := by decide +kernel
theorem dX13_copyGoal_106 : decode cX13_copyGoal 106 = .ok (.bipush 8, 2) := by decide +kernel
theorem dX13_copyGoal_108 : decode cX13_copyGoal 108 = .ok (.iload_n 2, 1) := by decide +kernel
theorem dX13_copyGoal_109 : decode cX13_copyGoal 109 = .ok (.imul, 1) := by decide +kernel
theorem dX13_copyGoal_110 : decode cX13_copyGoal 110 = .ok (.iload_n 3, 1) := by decide +kernel
theorem dX13_copyGoal_111 : decode cX13_copyGoal 111 = .ok (.iadd, 1) := by decide +kernel
theorem dX13_copyGoal_112 : decode cX13_copyGoal 112 = .ok (.aload_n 0, 1) := by decide +kernel
theorem dX13_copyGoal_113 : decode cX13_copyGoal 113 = .ok (.getfield 68, 3) := by decide +kernel
theorem dX13_copyGoal_116 : decode cX13_copyGoal 116 = .ok (.bipush 8, 2) := by decide +kernel
theorem dX13_copyGoal_118 : decode cX13_copyGoal 118 = .ok (.iload_n 1, 1) := by decide +kernel
theorem dX13_copyGoal_119 : decode cX13_copyGoal 119 = .ok (.imul, 1) := by decide +kernel
theorem dX13_copyGoal_120 : decode cX13_copyGoal 120 = .ok (.iload_n 3, 1) := by decide +kernel
theorem dX13_copyGoal_121 : decode cX13_copyGoal 121 = .ok (.iadd, 1) := by decide +kernel
theorem dX13_copyGoal_122 : decode cX13_copyGoal 122 = .ok (.iaload, 1) := by decide +kernel
theorem dX13_copyGoal_123 : decode cX13_copyGoal 123 = .ok (.iastore, 1) := by decide +kernel
theorem dX13_copyGoal_124 : decode cX13_copyGoal 124 = .ok (.iinc 3 1, 3) := by decide +kernel
theorem dX13_copyGoal_127 : decode cX13_copyGoal 127 = .ok (.goto (-53), 3) := by decide +kernel
theorem dX13_copyGoal_130 : decode cX13_copyGoal 130 = .ok (.return_, 1) := by decide +kernel
theorem dX13_times_0 : decode cX13_times 0 = .ok (.aload_n 0, 1) := by decide +kernel
theorem dX13_times_1 : decode cX13_times 1 = .ok (.getfield 119, 3) := by decide +kernel
theorem dX13_times_4 : decode cX13_times 4 = .ok (.iconst 1, 1) := by decide +kernel
theorem dX13_times_5 : decode cX13_times 5 = .ok (.isub, 1) := by decide +kernel
theorem dX13_times_6 : decode cX13_times 6 = .ok (.iload_n 1, 1) := by decide +kernel
theorem dX13_times_7 : decode cX13_times 7 = .ok (.iadd, 1) := by decide +kernel
theorem dX13_times_8 : decode cX13_times 8 = .ok (.bipush 6, 2) := by decide +kernel
theorem dX13_times_10 : decode cX13_times 10 = .ok (.if_icmp .le 9, 3) := by decide +kernel
theorem dX13_times_13 : decode cX13_times 13 = .ok (.aload_n 0, 1) := by decide +kernel
theorem dX13_times_14 : decode cX13_times 14 = .ok (.bipush 9, 2) := by decide +kernel
theorem dX13_times_16 : decode cX13_times 16 = .ok (.invokevirtual 236, 3) := by decide +kernel
theorem dX13_times_19 : decode cX13_times 19 = .ok (.aload_n 0, 1) := by decide +kernel
theorem dX13_times_20 : decode cX13_times 20 = .ok (.getfield 221, 3) := by decide +kernel
theorem dX13_times_23 : decode cX13_times 23 = .ok (.ifCond .le 4, 3) := by decide +kernel
theorem dX13_times_26 : decode cX13_times 26 = .ok (.return_, 1) := by decide +kernel
theorem dX13_times_27 : decode cX13_times 27 = .ok (.iload_n 1, 1) := by decide +kernel
theorem dX13_times_28 : decode cX13_times 28 = .ok (.ifCond .ne 29, 3) := by decide +kernel
theorem dX13_times_31 : decode cX13_times 31 = .ok (.iconst 0, 1) := by decide +kernel
theorem dX13_times_32 : decode cX13_times 32 = .ok (.istore_n 2, 1) := by decide +kernel
theorem dX13_times_33 : decode cX13_times 33 = .ok (.iload_n 2, 1) := by decide +kernel
theorem dX13_times_34 : decode cX13_times 34 = .ok (.iconst 1, 1) := by decide +kernel
theorem dX13_times_35 : decode cX13_times 35 = .ok (.iadd, 1) := by decide +kernel
theorem dX13_times_36 : decode cX13_times 36 = .ok (.aload_n 0, 1) := by decide +kernel
theorem dX13_times_37 : decode cX13_times 37 = .ok (.getfield 119, 3) := by decide +kernel
theorem dX13_times_40 : decode cX13_times 40 = .ok (.if_icmp .ge 17, 3) := by decide +kernel
theorem dX13_times_43 : decode cX13_times 43 = .ok (.aload_n 0, 1) := by decide +kernel
theorem dX13_times_44 : decode cX13_times 44 = .ok (.iload_n 2, 1) := by decide +kernel
theorem dX13_times_45 : decode cX13_times 45 = .ok (.iconst 1, 1) := by decide +kernel
theorem dX13_times_46 : decode cX13_times 46 = .ok (.iadd, 1) := by decide +kernel
theorem dX13_times_47 : decode cX13_times 47 = .ok (.iload_n 2, 1) := by decide +kernel
theorem dX13_times_48 : decode cX13_times 48 = .ok (.invokevirtual 336, 3) := by decide +kernel
theorem dX13_times_51 : decode cX13_times 51 = .ok (.iinc 2 1, 3) := by decide +kernel
theorem dX13_times_54 : decode cX13_times 54 = .ok (.goto (-21), 3) := by decide +kernel
theorem dX13_times_57 : decode cX13_times 57 = .ok (.aload_n 0, 1) := by decide +kernel
theorem dX13_times_58 : decode cX13_times 58 = .ok (.getfield 119, 3) := by decide +kernel
theorem dX13_times_61 : decode cX13_times 61 = .ok (.iconst 1, 1) := by decide +kernel
theorem dX13_times_62 : decode cX13_times 62 = .ok (.isub, 1) := by decide +kernel
theorem dX13_times_63 : decode cX13_times 63 = .ok (.istore_n 2, 1) := by decide +kernel
theorem dX13_times_64 : decode cX13_times 64 = .ok (.iload_n 2, 1) := by decide +kernel
theorem dX13_times_65 : decode cX13_times 65 = .ok (.ifCond .le 23, 3) := by decide +kernel
theorem dX13_times_68 : decode cX13_times 68 = .ok (.iload_n 1, 1) := by decide +kernel
theorem dX13_times_69 : decode cX13_times 69 = .ok (.ifCond .le 19, 3) := by decide +kernel
theorem dX13_times_72 : decode cX13_times 72 = .ok (.aload_n 0, 1) := by decide +kernel
theorem dX13_times_73 : decode cX13_times 73 = .ok (.iload_n 2, 1) := by decide +kernel
theorem dX13_times_74 : decode cX13_times 74 = .ok (.iload_n 2, 1) := by decide +kernel
theorem dX13_times_75 : decode cX13_times 75 = .ok (.iload_n 1, 1) := by decide +kernel
theorem dX13_times_76 : decode cX13_times 76 = .ok (.iadd, 1) := by decide +kernel
theorem dX13_times_77 : decode cX13_times 77 = .ok (.iconst 1, 1) := by decide +kernel
theorem dX13_times_78 : decode cX13_times 78 = .ok (.isub, 1) := by decide +kernel
theorem dX13_times_79 : decode cX13_times 79 = .ok (.invokevirtual 336, 3) := by decide +kernel
theorem dX13_times_82 : decode cX13_times 82 = .ok (.iinc 2 (-1), 3) := by decide +kernel
theorem dX13_times_85 : decode cX13_times 85 = .ok (.goto (-21), 3) := by decide +kernel
theorem dX13_times_88 : decode cX13_times 88 = .ok (.iconst 1, 1) := by decide +kernel
theorem dX13_times_89 : decode cX13_times 89 = .ok (.istore_n 2, 1) := by decide +kernel
theorem dX13_times_90 : decode cX13_times 90 = .ok (.iload_n 2, 1) := by decide +kernel
theorem dX13_times_91 : decode cX13_times 91 = .ok (.iload_n 1, 1) := by decide +kernel
theorem dX13_times_92 : decode cX13_times 92 = .ok (.if_icmp .ge 15, 3) := by decide +kernel
theorem dX13_times_95 : decode cX13_times 95 = .ok (.aload_n 0, 1) := by decide +kernel
theorem dX13_times_96 : decode cX13_times 96 = .ok (.iconst 0, 1) := by decide +kernel
theorem dX13_times_97 : decode cX13_times 97 = .ok (.iload_n 2, 1) := by decide +kernel
theorem dX13_times_98 : decode cX13_times 98 = .ok (.invokevirtual 336, 3) := by decide +kernel
theorem dX13_times_101 : decode cX13_times 101 = .ok (.iinc 2 1, 3) := by decide +kernel
theorem dX13_times_104 : decode cX13_times 104 = .ok (.goto (-14), 3) := by decide +kernel
theorem dX13_times_107 : decode cX13_times 107 = .ok (.aload_n 0, 1) := by decide +kernel
theorem dX13_times_108 : decode cX13_times 108 = .ok (.dup, 1) := by decide +kernel
theorem dX13_times_109 : decode cX13_times 109 = .ok (.getfield 119, 3) := by decide +kernel
theorem dX13_times_112 : decode cX13_times 112 = .ok (.iload_n 1, 1) := by decide +kernel
theorem dX13_times_113 : decode cX13_times 113 = .ok (.iconst 1, 1) := by decide +kernel
theorem dX13_times_114 : decode cX13_times 114 = .ok (.isub, 1) := by decide +kernel
theorem dX13_times_115 : decode cX13_times 115 = .ok (.iadd, 1) := by decide +kernel
theorem dX13_times_116 : decode cX13_times 116 = .ok (.putfield 119, 3) := by decide +kernel
theorem dX13_times_119 : decode cX13_times 119 = .ok (.return_, 1) := by decide +kernel
theorem dX13_done_0 : decode cX13_done 0 = .ok (.iload_n 1, 1) := by decide +kernel
theorem dX13_done_1 : decode cX13_done 1 = .ok (.ifCond .eq 11, 3) := by decide +kernel
theorem dX13_done_4 : decode cX13_done 4 = .ok (.aload_n 0, 1) := by decide +kernel
theorem dX13_done_5 : decode cX13_done 5 = .ok (.iconst 0, 1) := by decide +kernel
theorem dX13_done_6 : decode cX13_done 6 = .ok (.invokevirtual 352, 3) := by decide +kernel
theorem dX13_done_9 : decode cX13_done 9 = .ok (.goto 9, 3) := by decide +kernel
theorem dX13_done_12 : decode cX13_done 12 = .ok (.aload_n 0, 1) := by decide +kernel
theorem dX13_done_13 : decode cX13_done 13 = .ok (.bipush 8, 2) := by decide +kernel
theorem dX13_done_15 : decode cX13_done 15 = .ok (.invokevirtual 236, 3) := by decide +kernel
theorem dX13_done_18 : decode cX13_done 18 = .ok (.return_, 1) := by decide +kernel
theorem dX13_put_0 : decode cX13_put 0 = .ok (.aload_n 0, 1) := by decide +kernel
theorem dX13_put_1 : decode cX13_put 1 = .ok (.getfield 375, 3) := by decide +kernel
theorem dX13_put_4 : decode cX13_put 4 = .ok (.ldc 89, 2) := by decide +kernel
theorem dX13_put_6 : decode cX13_put 6 = .ok (.if_icmp .ne 4, 3) := by decide +kernel
theorem dX13_put_9 : decode cX13_put 9 = .ok (.return_, 1) := by decide +kernel
theorem dX13_put_10 : decode cX13_put 10 = .ok (.aload_n 0, 1) := by decide +kernel
theorem dX13_put_11 : decode cX13_put 11 = .ok (.getfield 90, 3) := by decide +kernel
theorem dX13_put_14 : decode cX13_put 14 = .ok (.aload_n 0, 1) := by decide +kernel
theorem dX13_put_15 : decode cX13_put 15 = .ok (.getfield 375, 3) := by decide +kernel
theorem dX13_put_18 : decode cX13_put 18 = .ok (.iload_n 1, 1) := by decide +kernel
theorem dX13_put_19 : decode cX13_put 19 = .ok (.iastore, 1) := by decide +kernel
theorem dX13_put_20 : decode cX13_put 20 = .ok (.aload_n 0, 1) := by decide +kernel
theorem dX13_put_21 : decode cX13_put 21 = .ok (.dup, 1) := by decide +kernel
theorem dX13_put_22 : decode cX13_put 22 = .ok (.getfield 375, 3) := by decide +kernel
theorem dX13_put_25 : decode cX13_put 25 = .ok (.iconst 1, 1) := by decide +kernel
theorem dX13_put_26 : decode cX13_put 26 = .ok (.iadd, 1) := by decide +kernel
theorem dX13_put_27 : decode cX13_put 27 = .ok (.putfield 375, 3) := by decide +kernel
theorem dX13_put_30 : decode cX13_put 30 = .ok (.return_, 1) := by decide +kernel
theorem dX13_words_0 : decode cX13_words 0 = .ok (.iconst 0, 1) := by decide +kernel
theorem dX13_words_1 : decode cX13_words 1 = .ok (.istore_n 2, 1) := by decide +kernel
theorem dX13_words_2 : decode cX13_words 2 = .ok (.iload_n 2, 1) := by decide +kernel
theorem dX13_words_3 : decode cX13_words 3 = .ok (.aload_n 1, 1) := by decide +kernel
theorem dX13_words_4 : decode cX13_words 4 = .ok (.invokevirtual 122, 3) := by decide +kernel
theorem dX13_words_7 : decode cX13_words 7 = .ok (.if_icmp .ge 18, 3) := by decide +kernel
theorem dX13_words_10 : decode cX13_words 10 = .ok (.aload_n 0, 1) := by decide +kernel
theorem dX13_words_11 : decode cX13_words 11 = .ok (.aload_n 1, 1) := by decide +kernel
theorem dX13_words_12 : decode cX13_words 12 = .ok (.iload_n 2, 1) := by decide +kernel
theorem dX13_words_13 : decode cX13_words 13 = .ok (.invokevirtual 128, 3) := by decide +kernel
theorem dX13_words_16 : decode cX13_words 16 = .ok (.invokevirtual 378, 3) := by decide +kernel
theorem dX13_words_19 : decode cX13_words 19 = .ok (.iinc 2 1, 3) := by decide +kernel
theorem dX13_words_22 : decode cX13_words 22 = .ok (.goto (-20), 3) := by decide +kernel
theorem dX13_words_25 : decode cX13_words 25 = .ok (.return_, 1) := by decide +kernel
theorem dX13_putName_0 : decode cX13_putName 0 = .ok (.iconst 0, 1) := by decide +kernel
theorem dX13_putName_1 : decode cX13_putName 1 = .ok (.istore_n 2, 1) := by decide +kernel
theorem dX13_putName_2 : decode cX13_putName 2 = .ok (.iload_n 2, 1) := by decide +kernel
theorem dX13_putName_3 : decode cX13_putName 3 = .ok (.aload_n 0, 1) := by decide +kernel
theorem dX13_putName_4 : decode cX13_putName 4 = .ok (.getfield 34, 3) := by decide +kernel
theorem dX13_putName_7 : decode cX13_putName 7 = .ok (.iload_n 1, 1) := by decide +kernel
theorem dX13_putName_8 : decode cX13_putName 8 = .ok (.iaload, 1) := by decide +kernel
theorem dX13_putName_9 : decode cX13_putName 9 = .ok (.if_icmp .ge 26, 3) := by decide +kernel
theorem dX13_putName_12 : decode cX13_putName 12 = .ok (.aload_n 0, 1) := by decide +kernel
theorem dX13_putName_13 : decode cX13_putName 13 = .ok (.aload_n 0, 1) := by decide +kernel
theorem dX13_putName_14 : decode cX13_putName 14 = .ok (.getfield 28, 3) := by decide +kernel
theorem dX13_putName_17 : decode cX13_putName 17 = .ok (.aload_n 0, 1) := by decide +kernel
theorem dX13_putName_18 : decode cX13_putName 18 = .ok (.getfield 31, 3) := by decide +kernel
theorem dX13_putName_21 : decode cX13_putName 21 = .ok (.iload_n 1, 1) := by decide +kernel
theorem dX13_putName_22 : decode cX13_putName 22 = .ok (.iaload, 1) := by decide +kernel
theorem dX13_putName_23 : decode cX13_putName 23 = .ok (.iload_n 2, 1) := by decide +kernel
theorem dX13_putName_24 : decode cX13_putName 24 = .ok (.iadd, 1) := by decide +kernel
theorem dX13_putName_25 : decode cX13_putName 25 = .ok (.iaload, 1) := by decide +kernel
theorem dX13_putName_26 : decode cX13_putName 26 = .ok (.invokevirtual 378, 3) := by decide +kernel
theorem dX13_putName_29 : decode cX13_putName 29 = .ok (.iinc 2 1, 3) := by decide +kernel
theorem dX13_putName_32 : decode cX13_putName 32 = .ok (.goto (-30), 3) := by decide +kernel
theorem dX13_putName_35 : decode cX13_putName 35 = .ok (.return_, 1) := by decide +kernel
theorem dX13_putBound_0 : decode cX13_putBound 0 = .ok (.aload_n 0, 1) := by decide +kernel
theorem dX13_putBound_1 : decode cX13_putBound 1 = .ok (.aload_n 0, 1) := by decide +kernel
theorem dX13_putBound_2 : decode cX13_putBound 2 = .ok (.getfield 93, 3) := by decide +kernel
theorem dX13_putBound_5 : decode cX13_putBound 5 = .ok (.iload_n 1, 1) := by decide +kernel
theorem dX13_putBound_6 : decode cX13_putBound 6 = .ok (.iaload, 1) := by decide +kernel
theorem dX13_putBound_7 : decode cX13_putBound 7 = .ok (.invokevirtual 381, 3) := by decide +kernel
theorem dX13_putBound_10 : decode cX13_putBound 10 = .ok (.iconst 0, 1) := by decide +kernel
theorem dX13_putBound_11 : decode cX13_putBound 11 = .ok (.istore_n 2, 1) := by decide +kernel
theorem dX13_putBound_12 : decode cX13_putBound 12 = .ok (.iload_n 2, 1) := by decide +kernel
theorem dX13_putBound_13 : decode cX13_putBound 13 = .ok (.aload_n 0, 1) := by decide +kernel
theorem dX13_putBound_14 : decode cX13_putBound 14 = .ok (.getfield 96, 3) := by decide +kernel
theorem dX13_putBound_17 : decode cX13_putBound 17 = .ok (.iload_n 1, 1) := by decide +kernel
theorem dX13_putBound_18 : decode cX13_putBound 18 = .ok (.iaload, 1) := by decide +kernel
theorem dX13_putBound_19 : decode cX13_putBound 19 = .ok (.if_icmp .ge 15, 3) := by decide +kernel
theorem dX13_putBound_22 : decode cX13_putBound 22 = .ok (.aload_n 0, 1) := by decide +kernel
theorem dX13_putBound_23 : decode cX13_putBound 23 = .ok (.bipush 39, 2) := by decide +kernel
theorem dX13_putBound_25 : decode cX13_putBound 25 = .ok (.invokevirtual 378, 3) := by decide +kernel
theorem dX13_putBound_28 : decode cX13_putBound 28 = .ok (.iinc 2 1, 3) := by decide +kernel
theorem dX13_putBound_31 : decode cX13_putBound 31 = .ok (.goto (-19), 3) := by decide +kernel
theorem dX13_putBound_34 : decode cX13_putBound 34 = .ok (.return_, 1) := by decide +kernel
theorem dX13_areAlike_0 : decode cX13_areAlike 0 = .ok (.aload_n 0, 1) := by decide +kernel
theorem dX13_areAlike_1 : decode cX13_areAlike 1 = .ok (.getfield 34, 3) := by decide +kernel
theorem dX13_areAlike_4 : decode cX13_areAlike 4 = .ok (.iload_n 1, 1) := by decide +kernel
theorem dX13_areAlike_5 : decode cX13_areAlike 5 = .ok (.iaload, 1) := by decide +kernel
theorem dX13_areAlike_6 : decode cX13_areAlike 6 = .ok (.iload_n 2, 1) := by decide +kernel
theorem dX13_areAlike_7 : decode cX13_areAlike 7 = .ok (.iadd, 1) := by decide +kernel
theorem dX13_areAlike_8 : decode cX13_areAlike 8 = .ok (.istore 5, 2) := by decide +kernel
theorem dX13_areAlike_10 : decode cX13_areAlike 10 = .ok (.iload 5, 2) := by decide +kernel
theorem dX13_areAlike_12 : decode cX13_areAlike 12 = .ok (.aload_n 0, 1) := by decide +kernel
theorem dX13_areAlike_13 : decode cX13_areAlike 13 = .ok (.getfield 34, 3) := by decide +kernel
theorem dX13_areAlike_16 : decode cX13_areAlike 16 = .ok (.iload_n 3, 1) := by decide +kernel
theorem dX13_areAlike_17 : decode cX13_areAlike 17 = .ok (.iaload, 1) := by decide +kernel
theorem dX13_areAlike_18 : decode cX13_areAlike 18 = .ok (.iload 4, 2) := by decide +kernel
theorem dX13_areAlike_20 : decode cX13_areAlike 20 = .ok (.iadd, 1) := by decide +kernel
theorem dX13_areAlike_21 : decode cX13_areAlike 21 = .ok (.if_icmp .eq 5, 3) := by decide +kernel
theorem dX13_areAlike_24 : decode cX13_areAlike 24 = .ok (.iconst 0, 1) := by decide +kernel
theorem dX13_areAlike_25 : decode cX13_areAlike 25 = .ok (.ireturn, 1) := by decide +kernel
theorem dX13_areAlike_26 : decode cX13_areAlike 26 = .ok (.iconst 0, 1) := by decide +kernel
theorem dX13_areAlike_27 : decode cX13_areAlike 27 = .ok (.istore 6, 2) := by decide +kernel
theorem dX13_areAlike_29 : decode cX13_areAlike 29 = .ok (.iload 6, 2) := by decide +kernel
theorem dX13_areAlike_31 : decode cX13_areAlike 31 = .ok (.iload 5, 2) := by decide +kernel
theorem dX13_areAlike_33 : decode cX13_areAlike 33 = .ok (.if_icmp .ge 82, 3) := by decide +kernel
theorem dX13_areAlike_36 : decode cX13_areAlike 36 = .ok (.iload 6, 2) := by decide +kernel
theorem dX13_areAlike_38 : decode cX13_areAlike 38 = .ok (.aload_n 0, 1) := by decide +kernel
theorem dX13_areAlike_39 : decode cX13_areAlike 39 = .ok (.getfield 34, 3) := by decide +kernel
theorem dX13_areAlike_42 : decode cX13_areAlike 42 = .ok (.iload_n 1, 1) := by decide +kernel
theorem dX13_areAlike_43 : decode cX13_areAlike 43 = .ok (.iaload, 1) := by decide +kernel
theorem dX13_areAlike_44 : decode cX13_areAlike 44 = .ok (.if_icmp .ge 20, 3) := by decide +kernel
theorem dX13_areAlike_47 : decode cX13_areAlike 47 = .ok (.aload_n 0, 1) := by decide +kernel
theorem dX13_areAlike_48 : decode cX13_areAlike 48 = .ok (.getfield 28, 3) := by decide +kernel
theorem dX13_areAlike_51 : decode cX13_areAlike 51 = .ok (.aload_n 0, 1) := by decide +kernel
theorem dX13_areAlike_52 : decode cX13_areAlike 52 = .ok (.getfield 31, 3) := by decide +kernel
theorem dX13_areAlike_55 : decode cX13_areAlike 55 = .ok (.iload_n 1, 1) := by decide +kernel
theorem dX13_areAlike_56 : decode cX13_areAlike 56 = .ok (.iaload, 1) := by decide +kernel
theorem dX13_areAlike_57 : decode cX13_areAlike 57 = .ok (.iload 6, 2) := by decide +kernel
theorem dX13_areAlike_59 : decode cX13_areAlike 59 = .ok (.iadd, 1) := by decide +kernel
theorem dX13_areAlike_60 : decode cX13_areAlike 60 = .ok (.iaload, 1) := by decide +kernel
theorem dX13_areAlike_61 : decode cX13_areAlike 61 = .ok (.goto 5, 3) := by decide +kernel
theorem dX13_areAlike_64 : decode cX13_areAlike 64 = .ok (.bipush 39, 2) := by decide +kernel
theorem dX13_areAlike_66 : decode cX13_areAlike 66 = .ok (.istore 7, 2) := by decide +kernel
theorem dX13_areAlike_68 : decode cX13_areAlike 68 = .ok (.iload 6, 2) := by decide +kernel
theorem dX13_areAlike_70 : decode cX13_areAlike 70 = .ok (.aload_n 0, 1) := by decide +kernel
theorem dX13_areAlike_71 : decode cX13_areAlike 71 = .ok (.getfield 34, 3) := by decide +kernel
theorem dX13_areAlike_74 : decode cX13_areAlike 74 = .ok (.iload_n 3, 1) := by decide +kernel
theorem dX13_areAlike_75 : decode cX13_areAlike 75 = .ok (.iaload, 1) := by decide +kernel
theorem dX13_areAlike_76 : decode cX13_areAlike 76 = .ok (.if_icmp .ge 20, 3) := by decide +kernel
theorem dX13_areAlike_79 : decode cX13_areAlike 79 = .ok (.aload_n 0, 1) := by decide +kernel
theorem dX13_areAlike_80 : decode cX13_areAlike 80 = .ok (.getfield 28, 3) := by decide +kernel
theorem dX13_areAlike_83 : decode cX13_areAlike 83 = .ok (.aload_n 0, 1) := by decide +kernel
theorem dX13_areAlike_84 : decode cX13_areAlike 84 = .ok (.getfield 31, 3) := by decide +kernel
theorem dX13_areAlike_87 : decode cX13_areAlike 87 = .ok (.iload_n 3, 1) := by decide +kernel
theorem dX13_areAlike_88 : decode cX13_areAlike 88 = .ok (.iaload, 1) := by decide +kernel
theorem dX13_areAlike_89 : decode cX13_areAlike 89 = .ok (.iload 6, 2) := by decide +kernel
theorem dX13_areAlike_91 : decode cX13_areAlike 91 = .ok (.iadd, 1) := by decide +kernel
theorem dX13_areAlike_92 : decode cX13_areAlike 92 = .ok (.iaload, 1) := by decide +kernel
theorem dX13_areAlike_93 : decode cX13_areAlike 93 = .ok (.goto 5, 3) := by decide +kernel
theorem dX13_areAlike_96 : decode cX13_areAlike 96 = .ok (.bipush 39, 2) := by decide +kernel
theorem dX13_areAlike_98 : decode cX13_areAlike 98 = .ok (.istore 8, 2) := by decide +kernel
theorem dX13_areAlike_100 : decode cX13_areAlike 100 = .ok (.iload 7, 2) := by decide +kernel
theorem dX13_areAlike_102 : decode cX13_areAlike 102 = .ok (.iload 8, 2) := by decide +kernel
theorem dX13_areAlike_104 : decode cX13_areAlike 104 = .ok (.if_icmp .eq 5, 3) := by decide +kernel
theorem dX13_areAlike_107 : decode cX13_areAlike 107 = .ok (.iconst 0, 1) := by decide +kernel
theorem dX13_areAlike_108 : decode cX13_areAlike 108 = .ok (.ireturn, 1) := by decide +kernel
theorem dX13_areAlike_109 : decode cX13_areAlike 109 = .ok (.iinc 6 1, 3) := by decide +kernel
theorem dX13_areAlike_112 : decode cX13_areAlike 112 = .ok (.goto (-83), 3) := by decide +kernel
theorem dX13_areAlike_115 : decode cX13_areAlike 115 = .ok (.iconst 1, 1) := by decide +kernel
theorem dX13_areAlike_116 : decode cX13_areAlike 116 = .ok (.ireturn, 1) := by decide +kernel
def EX13_isNamed : List (Nat × Nat) := []
def EX13_token : List (Nat × Nat) := [(15, 30), (157, 0), (167, 0)]
def EX13_isLetter : List (Nat × Nat) := []
def EX13_isNameSign : List (Nat × Nat) := []
def EX13_is : List (Nat × Nat) := []
def EX13_isWord : List (Nat × Nat) := []
def EX13_isVariable : List (Nat × Nat) := []
def EX13_put : List (Nat × Nat) := [(15, 46), (101, 0)]
def EX13_words : List (Nat × Nat) := [(15, 46), (101, 0)]
def EX13_putName : List (Nat × Nat) := [(15, 46), (101, 0)]
def EX13_putBound : List (Nat × Nat) := [(15, 46), (101, 0)]
set_option maxHeartbeats 4000000 in
set_option maxRecDepth 20000 in
theorem uX13_isNamed (l : Launch) (dC : Nat → ClassId) (dI : Nat → Nat → Nat) (ca : Nat → ClassId) (base : Nat) (B : jF) (hB : jBok B) (hAp : jAp (dC, dI)) (hB15 : ∀ n G a H, B 15 n G a H ↔ jOb (dC, dI) 15 50 (F15 n G) a H) (hB155 : ∀ n G a H, B 155 n G a H ↔ jAr (dC, dI) (ca 1) (fun j z => 0 ≤ z.toInt ∧ z.toInt ≤ 11990) n a H) (hB156 : ∀ n G a H, B 156 n G a H ↔ jAr (dC, dI) (ca 1) (fun j z => 0 ≤ z.toInt ∧ z.toInt ≤ 10) n a H) (hB166 : ∀ n G a H, B 166 n G a H ↔ jAr (dC, dI) (ca 1) (fun j z => True) n a H) (G0 : jT) (H0 : Heap) (r0 : Nat) (a1 : Int32) (r2 : Nat) (n2 : Nat) : Met l yX13_isNamed (jw yX13_isNamed cX13_isNamed 5 (some .boolean)) ({ frames := 4, cells := 0, slots := 0, locals := 141 }) (va_Pc [.ref r0, .int a1, .ref r2] (fun U => U.heap = H0 ∧ jX B base G0 [] H0 ∧ jG dC dI ca base U ∧ jStr base r2 n2 U H0 ∧ G0 r0 = some (15, 0) ∧ jP (dC, dI) G0 H0 [] ∧ 0 ≤ a1.toInt ∧ a1.toInt ≤ 1599 ∧ n2 ≤ 1000)) (va_Qi (S := Unit) (fun r u => (r = 0 ∨ r = 1) ∧ (True)) (fun u t => jRt (dC, dI) B base G0 EX13_isNamed H0 [] t.heap) (jA base)) 0 0 (jA base) := by
  refine Met.ofW (cc := cX13_isNamed) (maxL := 5) (ret := (some .boolean)) (by decide) rfl ?_
  intro p e s m args below meth c s₁ Bd hml hv
  obtain ⟨rfl, hH0, hX, hG, hstr_r2, hg_r0, hP0, hp0, hp1, hp2⟩ := hv
  have hK := hG.1
  have hx := Bd.exec
  have hb := Bd.bytes
  have hr := Bd.returns
  have hts := atoms_spec (ws := (jw yX13_isNamed cX13_isNamed 5 (some .boolean))) Bd.pre
  have htw : ∀ w ∈ jWl, w.before _ s = true := fun w h => hts w (List.mem_cons_of_mem _ h)
  have hown : s.vm.findClass RX13 = some m.cls := findClass_of_methodNamed Bd.named
  have hlocks := Bd.notSynchronized
  obtain ⟨Q, hQ⟩ : ∃ Q, Q = MQ below (va_Qi (S := Unit) (fun r u => (r = 0 ∨ r = 1) ∧ (True)) (fun u t => jRt (dC, dI) B base G0 EX13_isNamed H0 [] t.heap) (jA base)) ([.ref r0, .int a1, .ref r2] : List Value).toArray s 0 0 (jA base) := ⟨_, rfl⟩
  rw [← hQ]
  have hl := lv_entry ([.ref r0, .int a1, .ref r2]) (n := 5) (Nat.le_of_ble_eq_true rfl)
  rw [lg_entry_eq]
  generalize (lg_sl ([.ref r0, .int a1, .ref r2]) ++ List.replicate (5 - (lg_sl ([.ref r0, .int a1, .ref r2])).length) Slot.unset).toArray = ls at hl ⊢
  have hl : lv_has ls 5 [(0, .ref r0), (1, .int a1), (2, .ref r2)] := hl
  generalize hR : (headSpec (jw yX13_isNamed cX13_isNamed 5 (some .boolean)) ({ frames := 4, cells := 0, slots := 0, locals := 141 })).room = R
  subst hH0
  have hh : jSt (dC, dI) B base G0 G0 EX13_isNamed s.heap 0 0 [] [] [] s.heap [] := jSt.start hX hP0 jMc.nil jIs.nil
  clear hX hP0
  have hk0 : (0 : Int32).toInt = 0 := by decide
  have hk1 : (1 : Int32).toInt = 1 := by decide
  have hly_15_6 := htw (u_lay RX13 TX13 6) (jWc_wsX130 _ (u_in_lay (by decide)))
  have hly_15_8 := htw (u_lay RX13 TX13 8) (jWc_wsX130 _ (u_in_lay (by decide)))
  have hly_15_9 := htw (u_lay RX13 TX13 9) (jWc_wsX130 _ (u_in_lay (by decide)))
  have hlk_34 := (htw (.fieldLink RX13 34 "ProofServerModel$Kernel" "nameLength" "[I") (jWr_14 _ (List.mem_of_getElem? (i := 16) rfl)))
  have hlk_28 := (htw (.fieldLink RX13 28 "ProofServerModel$Kernel" "signs" "[I") (jWr_14 _ (List.mem_of_getElem? (i := 14) rfl)))
  have hlk_31 := (htw (.fieldLink RX13 31 "ProofServerModel$Kernel" "nameAt" "[I") (jWr_14 _ (List.mem_of_getElem? (i := 15) rfl)))
  have hrg_a1 := jb_rng a1
  refine lv_aload_n hx hb dX13_isNamed_0 rfl (lv_at hl 0 rfl) ?_
  obtain ⟨v_1, hv_1, hh_2⟩ := hh.pin (C := RX13) (T := TX13) (N := 50) hB15 rfl (by decide) hg_r0 (i := 9) (by decide) rfl
  clear hh
  obtain ⟨nameLength_3, rfl, hg_nameLength_3⟩ := hv_1
  refine j7_read hx hb hown hK (C := RX13) (T := TX13) (N := 50) rfl hly_15_9 hlk_34 (hh_2.at 0 rfl) dX13_isNamed_1 ?_
  refine lv_iload_n hx hb dX13_isNamed_4 rfl (lv_at hl 1 rfl) ?_
  refine j7_iald hx hb hK hh_2 hB156 1 rfl (by decide) hg_nameLength_3 (x := a1.toInt) (rfl) (by omega) dX13_isNamed_5 (fun z_4 (hz_4 : 0 ≤ z_4.toInt ∧ z_4.toInt ≤ 10) => ?_)
  refine lv_aload_n hx hb dX13_isNamed_6 rfl (lv_at hl 2 rfl) ?_
  refine vp_callSi (W.runV (As := []) (rest := [.int z_4]) ⟨hx, hb, hml, hown, hts⟩ (wJ0_length_8abf5 l dC dI ca base s.heap r2 n2) (cwV 0 hts (jgV (jWr_61 _ (List.mem_of_getElem? (i := 4) rfl)) (jWr_5 _ (List.mem_of_getElem? (i := 13) rfl)) (jWr_5 _ (List.mem_of_getElem? (i := 14) rfl)) (jWr_5 _ (List.mem_of_getElem? (i := 15) rfl)) (jWr_5 _ (List.mem_of_getElem? (i := 16) rfl))) rfl rfl rfl (by decide +kernel) ⟨by rw [← hR]; exact Nat.le_of_ble_eq_true rfl, by rw [← hR]; exact Nat.le_of_ble_eq_true rfl⟩) ⟨fun a U g mk q => by obtain ⟨q0, q1, q2, qK, q9⟩ := q; exact ⟨q0, q1, (q2.moved (Vm.Alike.refl U.vm)), jG.calling g mk a qK, q9⟩, jStr_recv hstr_r2 hh_2.1, fun U hU hW => ⟨rfl, hU, (hstr_r2.moved hW.alike).kept hh_2.1.2.1, hG.step hW hU hh_2.1, by omega⟩⟩ rfl rfl hl.1 rfl (lv_room (Nat.le_of_ble_eq_true rfl)) dX13_isNamed_7 ⟨Nat.zero_le _, Nat.zero_le _⟩) (fun r_5 hr_5 => ?_)
  have C18 : ∀ (w0_6 : Int32) (H_6 : Heap) (locs_6 : List Loc), jSt (dC, dI) B base G0 G0 EX13_isNamed s.heap 0 0 [(r0, 15, 9, .ref nameLength_3)] [] [] H_6 locs_6 → (w0_6 = 0 ∨ w0_6 = 1) → (w0_6.toInt = 0 ∨ n2 ≤ 10) → ∀ ls : Array Slot, lv_has ls 5 [(0, .ref r0), (1, .int a1), (2, .ref r2)] → W p l e R s m ([.ref r0, .int a1, .ref r2] : List Value).toArray below meth c H_6 locs_6 0 0 Q (F0 m 18 ls [.int w0_6]) := by
    intro w0_6 H_6 locs_6 hh_6 hb_w0_6 hi_6 ls hl
    have hb_w0_6' := jb_01 hb_w0_6
    refine lv_istore_n (lv' := [(3, .int w0_6), (0, .ref r0), (1, .int a1), (2, .ref r2)]) hx hb dX13_isNamed_18 rfl hl (by decide) rfl (fun ls hl => ?_)
    refine lv_iconst (v := 0) hx hb dX13_isNamed_19 (by decide) ?_
    refine lv_istore (lv' := [(4, .int 0), (3, .int w0_6), (0, .ref r0), (1, .int a1), (2, .ref r2)]) hx hb dX13_isNamed_20 hl (by decide) rfl (fun ls hl => ?_)
    have L22 : ∀ (N : Nat) (v3_7 : Int32) (v4_7 : Int32) (H_7 : Heap) (locs_7 : List Loc), jSt (dC, dI) B base G0 G0 EX13_isNamed s.heap 0 0 [(r0, 15, 9, .ref nameLength_3)] [] [] H_7 locs_7 → (v3_7 = 0 ∨ v3_7 = 1) → (0 ≤ v4_7.toInt ∧ v4_7.toInt ≤ n2 ∧ (v3_7.toInt = 0 ∨ n2 ≤ 10)) → (n2 - v4_7.toInt : Int) < N → ∀ ls : Array Slot, lv_has ls 5 [(0, .ref r0), (1, .int a1), (2, .ref r2), (3, .int v3_7), (4, .int v4_7)] → W p l e R s m ([.ref r0, .int a1, .ref r2] : List Value).toArray below meth c H_7 locs_7 0 0 Q (F0 m 22 ls []) := by
      intro N
      induction N with
      | zero => intro v3_7 v4_7 H_7 locs_7 hh_7 hb_v3_7 hi_7 hm; exact absurd hm (by omega)
      | succ N L22 =>
        intro v3_7 v4_7 H_7 locs_7 hh_7 hb_v3_7 hi_7 hm_7 ls hl
        obtain ⟨hi_7_0, hi_7_1, hi_7_2⟩ := hi_7
        have hb_v3_7' := jb_01 hb_v3_7
        refine lv_iload hx hb dX13_isNamed_22 (lv_at hl 4 rfl) ?_
        refine lv_aload_n hx hb dX13_isNamed_24 rfl (lv_at hl 2 rfl) ?_
        refine vp_callSi (W.runV (As := []) (rest := [.int v4_7]) ⟨hx, hb, hml, hown, hts⟩ (wJ0_length_8abf5 l dC dI ca base H_7 r2 n2) (cwV 0 hts (jgV (jWr_61 _ (List.mem_of_getElem? (i := 4) rfl)) (jWr_5 _ (List.mem_of_getElem? (i := 13) rfl)) (jWr_5 _ (List.mem_of_getElem? (i := 14) rfl)) (jWr_5 _ (List.mem_of_getElem? (i := 15) rfl)) (jWr_5 _ (List.mem_of_getElem? (i := 16) rfl))) rfl rfl rfl (by decide +kernel) ⟨by rw [← hR]; exact Nat.le_of_ble_eq_true rfl, by rw [← hR]; exact Nat.le_of_ble_eq_true rfl⟩) ⟨fun a U g mk q => by obtain ⟨q0, q1, q2, qK, q9⟩ := q; exact ⟨q0, q1, (q2.moved (Vm.Alike.refl U.vm)), jG.calling g mk a qK, q9⟩, jStr_recv hstr_r2 hh_7.1, fun U hU hW => ⟨rfl, hU, (hstr_r2.moved hW.alike).kept hh_7.1.2.1, hG.step hW hU hh_7.1, by omega⟩⟩ rfl rfl hl.1 rfl (lv_room (Nat.le_of_ble_eq_true rfl)) dX13_isNamed_25 ⟨Nat.zero_le _, Nat.zero_le _⟩) (fun r_8 hr_8 => ?_)
        refine lv_icmp_ge (tgt := 70) hx hb dX13_isNamed_28 (by decide) (fun c_9 => ?_) (fun c_9 => ?_)
        · skip
          have c_9' : v4_7.toInt ≥ r_8.toInt := jb_ge (rfl) (rfl) c_9
          refine lv_iload_n hx hb dX13_isNamed_70 rfl (lv_at hl 3 rfl) ?_
          rw [hQ]
          exact W.zret (v := v3_7) hx hb hr (jb_nz (hb_v3_7)) (fun t ht hW => ⟨⟨v3_7, (), rfl, ⟨(hb_v3_7), trivial⟩, hh_7.rt (M1 := []) [] rfl ht⟩, by rw [ht]; try exact hh_7.1.1, fun q h9 hq => by rw [ht]; try exact hh_7.1.2.1 q h9 hq⟩) hh_7.1.2.2 dX13_isNamed_71
        · skip
          have c_9' : v4_7.toInt < r_8.toInt := jb_ge_n (rfl) (rfl) c_9
          refine lv_iload_n hx hb dX13_isNamed_31 rfl (lv_at hl 3 rfl) ?_
          refine lv_if_eq (tgt := 70) hx hb dX13_isNamed_32 (by decide) (fun c_10 => ?_) (fun c_10 => ?_)
          · skip
            have c_10' : v3_7.toInt = 0 := jb_eq (rfl) ((by decide)) c_10
            refine lv_iload_n hx hb dX13_isNamed_70 rfl (lv_at hl 3 rfl) ?_
            rw [hQ]
            exact W.zret (v := v3_7) hx hb hr (jb_nz (hb_v3_7)) (fun t ht hW => ⟨⟨v3_7, (), rfl, ⟨(hb_v3_7), trivial⟩, hh_7.rt (M1 := []) [] rfl ht⟩, by rw [ht]; try exact hh_7.1.1, fun q h9 hq => by rw [ht]; try exact hh_7.1.2.1 q h9 hq⟩) hh_7.1.2.2 dX13_isNamed_71
          · skip
            have c_10' : v3_7.toInt ≠ 0 := jb_eq_n (rfl) ((by decide)) c_10
            refine lv_aload_n hx hb dX13_isNamed_35 rfl (lv_at hl 0 rfl) ?_
            obtain ⟨v_11, hv_11, hh_12⟩ := hh_7.pin (C := RX13) (T := TX13) (N := 50) hB15 rfl (by decide) hg_r0 (i := 6) (by decide) rfl
            clear hh_7
            obtain ⟨signs_13, rfl, hg_signs_13⟩ := hv_11
            refine j7_read hx hb hown hK (C := RX13) (T := TX13) (N := 50) rfl hly_15_6 hlk_28 (hh_12.at 0 rfl) dX13_isNamed_36 ?_
            refine lv_aload_n hx hb dX13_isNamed_39 rfl (lv_at hl 0 rfl) ?_
            obtain ⟨v_14, hv_14, hh_15⟩ := hh_12.pin (C := RX13) (T := TX13) (N := 50) hB15 rfl (by decide) hg_r0 (i := 8) (by decide) rfl
            clear hh_12
            obtain ⟨nameAt_16, rfl, hg_nameAt_16⟩ := hv_14
            refine j7_read hx hb hown hK (C := RX13) (T := TX13) (N := 50) rfl hly_15_8 hlk_31 (hh_15.at 0 rfl) dX13_isNamed_40 ?_
            refine lv_iload_n hx hb dX13_isNamed_43 rfl (lv_at hl 1 rfl) ?_
            refine j7_iald hx hb hK hh_15 hB155 1 rfl (by decide) hg_nameAt_16 (x := a1.toInt) (rfl) (by omega) dX13_isNamed_44 (fun z_17 (hz_17 : 0 ≤ z_17.toInt ∧ z_17.toInt ≤ 11990) => ?_)
            refine lv_iload hx hb dX13_isNamed_45 (lv_at hl 4 rfl) ?_
            refine lv_iadd hx hb dX13_isNamed_47 ?_
            refine lv_topi (fun z_18 ez_18 => ?_)
            have hz_18 : z_18.toInt = z_17.toInt + v4_7.toInt := by rw [ez_18]; exact jb_iadd2 (rfl) (rfl) (by omega)
            refine j7_iald hx hb hK hh_15 hB166 1 rfl (by decide) hg_signs_13 (x := z_18.toInt) (rfl) (by omega) dX13_isNamed_48 (fun z_19 (hz_19 : True) => ?_)
            refine lv_aload_n hx hb dX13_isNamed_49 rfl (lv_at hl 2 rfl) ?_
            refine lv_iload hx hb dX13_isNamed_50 (lv_at hl 4 rfl) ?_
            refine vp_callSi (W.runV (As := [.int v4_7]) (rest := [.int z_19]) ⟨hx, hb, hml, hown, hts⟩ (wJ0_charAt_5068e l dC dI ca base H_7 r2 n2 v4_7) (cwV 1 hts (jgV (jWr_61 _ (List.mem_of_getElem? (i := 6) rfl)) (jWr_6 _ (List.mem_of_getElem? (i := 1) rfl)) (jWr_6 _ (List.mem_of_getElem? (i := 2) rfl)) (jWr_5 _ (List.mem_of_getElem? (i := 15) rfl)) (jWr_6 _ (List.mem_of_getElem? (i := 3) rfl))) rfl rfl rfl (by decide +kernel) ⟨by rw [← hR]; exact Nat.le_of_ble_eq_true rfl, by rw [← hR]; exact Nat.le_of_ble_eq_true rfl⟩) ⟨fun a U g mk q => by obtain ⟨q0, q1, q2, qK, q9⟩ := q; exact ⟨q0, q1, (q2.moved (Vm.Alike.refl U.vm)), jG.calling g mk a qK, q9⟩, jStr_recv hstr_r2 hh_15.1, fun U hU hW => ⟨rfl, hU, (hstr_r2.moved hW.alike).kept hh_15.1.2.1, hG.step hW hU hh_15.1, ⟨by omega, by omega, by omega⟩⟩⟩ rfl rfl hl.1 rfl (lv_room (Nat.le_of_ble_eq_true rfl)) dX13_isNamed_52 ⟨Nat.zero_le _, Nat.zero_le _⟩) (fun r_20 hr_20 => ?_)
            refine lv_icmp_ne (tgt := 62) hx hb dX13_isNamed_55 (by decide) (fun c_21 => ?_) (fun c_21 => ?_)
            · skip
              have c_21' : z_19.toInt ≠ r_20.toInt := jb_ne (rfl) (rfl) c_21
              refine lv_iconst (v := 0) hx hb dX13_isNamed_62 (by decide) ?_
              refine lv_istore_n (lv' := [(3, .int 0), (0, .ref r0), (1, .int a1), (2, .ref r2), (4, .int v4_7)]) hx hb dX13_isNamed_63 rfl hl (by decide) rfl (fun ls hl => ?_)
              obtain ⟨z_22, ez_22⟩ : ∃ y : Int32, y = v4_7 + 1 := ⟨_, rfl⟩
              refine lv_iinc (v := z_22) (lv' := [(4, .int z_22), (3, .int 0), (0, .ref r0), (1, .int a1), (2, .ref r2)]) hx hb dX13_isNamed_64 hl (k := 4) rfl (by rw [ez_22]; rfl) (by decide) rfl (fun ls hl => ?_)
              have hz_22 : z_22.toInt = v4_7.toInt + 1 := by rw [ez_22]; exact jb_iadd2 (rfl) (by decide) (by omega)
              refine lv_goto (tgt := 22) hx hb dX13_isNamed_67 (by decide) ?_
              exact L22 0 z_22 _ _ (hh_15.sub (L1 := [(r0, 15, 9, .ref nameLength_3)]) [2] rfl (M1 := []) [] rfl (I1 := []) [] rfl) (Or.inl rfl) (by first | omega | (refine ⟨?_, ?_, ?_⟩ <;> (first | omega | rfl | assumption | decide | exact Or.inl rfl | exact Or.inr rfl | (simp only; omega)))) (by omega) _ (lv_sub hl [2, 3, 4, 1, 0] rfl)
            · skip
              have c_21' : z_19.toInt = r_20.toInt := jb_ne_n (rfl) (rfl) c_21
              refine lv_iconst (v := 1) hx hb dX13_isNamed_58 (by decide) ?_
              refine lv_goto (tgt := 63) hx hb dX13_isNamed_59 (by decide) ?_
              refine lv_istore_n (lv' := [(3, .int 1), (0, .ref r0), (1, .int a1), (2, .ref r2), (4, .int v4_7)]) hx hb dX13_isNamed_63 rfl hl (by decide) rfl (fun ls hl => ?_)
              obtain ⟨z_23, ez_23⟩ : ∃ y : Int32, y = v4_7 + 1 := ⟨_, rfl⟩
              refine lv_iinc (v := z_23) (lv' := [(4, .int z_23), (3, .int 1), (0, .ref r0), (1, .int a1), (2, .ref r2)]) hx hb dX13_isNamed_64 hl (k := 4) rfl (by rw [ez_23]; rfl) (by decide) rfl (fun ls hl => ?_)
              have hz_23 : z_23.toInt = v4_7.toInt + 1 := by rw [ez_23]; exact jb_iadd2 (rfl) (by decide) (by omega)
              refine lv_goto (tgt := 22) hx hb dX13_isNamed_67 (by decide) ?_
              exact L22 1 z_23 _ _ (hh_15.sub (L1 := [(r0, 15, 9, .ref nameLength_3)]) [2] rfl (M1 := []) [] rfl (I1 := []) [] rfl) (Or.inr rfl) (by first | omega | (refine ⟨?_, ?_, ?_⟩ <;> (first | omega | rfl | assumption | decide | exact Or.inl rfl | exact Or.inr rfl | (simp only; omega)))) (by omega) _ (lv_sub hl [2, 3, 4, 1, 0] rfl)
    exact L22 (n2 - (0 : Int32).toInt : Int).toNat.succ w0_6 0 _ _ hh_6 (hb_w0_6) (by first | omega | (refine ⟨?_, ?_, ?_⟩ <;> (first | omega | rfl | assumption | decide | exact Or.inl rfl | exact Or.inr rfl | (simp only; omega)))) (by omega) _ (lv_sub hl [2, 3, 4, 1, 0] rfl)
  refine lv_icmp_ne (tgt := 17) hx hb dX13_isNamed_10 (by decide) (fun c_24 => ?_) (fun c_24 => ?_)
  · skip
    have c_24' : z_4.toInt ≠ r_5.toInt := jb_ne (rfl) (rfl) c_24
    refine lv_iconst (v := 0) hx hb dX13_isNamed_17 (by decide) ?_
    exact C18 0 _ _ hh_2 (Or.inl rfl) (by first | omega | rfl | assumption | decide | exact Or.inl rfl | exact Or.inr rfl | (simp only; omega)) _ (lv_sub hl [0, 1, 2] rfl)
  · skip
    have c_24' : z_4.toInt = r_5.toInt := jb_ne_n (rfl) (rfl) c_24
    refine lv_iconst (v := 1) hx hb dX13_isNamed_13 (by decide) ?_
    refine lv_goto (tgt := 18) hx hb dX13_isNamed_14 (by decide) ?_
    exact C18 1 _ _ hh_2 (Or.inr rfl) (by first | omega | rfl | assumption | decide | exact Or.inl rfl | exact Or.inr rfl | (simp only; omega)) _ (lv_sub hl [0, 1, 2] rfl)
set_option maxHeartbeats 4000000 in
set_option maxRecDepth 20000 in
theorem uX13_token (l : Launch) (dC : Nat → ClassId) (dI : Nat → Nat → Nat) (ca : Nat → ClassId) (base : Nat) (B : jF) (hB : jBok B) (hAp : jAp (dC, dI)) (hB15 : ∀ n G a H, B 15 n G a H ↔ jOb (dC, dI) 15 50 (F15 n G) a H) (hB157 : ∀ n G a H, B 157 n G a H ↔ jAr (dC, dI) (ca 1) (fun j z => 0 ≤ z.toInt ∧ z.toInt ≤ 1599) n a H) (hB167 : ∀ n G a H, B 167 n G a H ↔ jAr (dC, dI) (ca 1) (fun j z => True) n a H) (G0 : jT) (H0 : Heap) (r0 : Nat) (a1 : Int32) (a2 : Int32) (pk : Int32) : Met l yX13_token (jw yX13_token cX13_token 3 none) ({ frames := 0, cells := 0, slots := 0, locals := 0 }) (va_Pc [.ref r0, .int a1, .int a2] (fun U => U.heap = H0 ∧ jX B base G0 [] H0 ∧ jG dC dI ca base U ∧ G0 r0 = some (15, 0) ∧ jP (dC, dI) G0 H0 [(r0, 15, 30, .int pk)] ∧ 0 ≤ pk.toInt ∧ pk.toInt ≤ 1499 ∧ 0 ≤ a2.toInt ∧ a2.toInt ≤ 1599)) (va_Qv (S := Int32) (fun u => u.toInt = pk.toInt + 1) (fun u t => jRt (dC, dI) B base G0 EX13_token H0 [(r0, 15, 30, .int u)] t.heap) (jA base)) 0 0 (jA base) := by
  refine Met.ofW (cc := cX13_token) (maxL := 3) (ret := none) (by decide) rfl ?_
  intro p e s m args below meth c s₁ Bd hml hv
  obtain ⟨rfl, hH0, hX, hG, hg_r0, hP0, hp0, hp1, hp2, hp3⟩ := hv
  have hK := hG.1
  have hx := Bd.exec
  have hb := Bd.bytes
  have hr := Bd.returns
  have hts := atoms_spec (ws := (jw yX13_token cX13_token 3 none)) Bd.pre
  have htw : ∀ w ∈ jWl, w.before _ s = true := fun w h => hts w (List.mem_cons_of_mem _ h)
  have hown : s.vm.findClass RX13 = some m.cls := findClass_of_methodNamed Bd.named
  have hlocks := Bd.notSynchronized
  obtain ⟨Q, hQ⟩ : ∃ Q, Q = MQ below (va_Qv (S := Int32) (fun u => u.toInt = pk.toInt + 1) (fun u t => jRt (dC, dI) B base G0 EX13_token H0 [(r0, 15, 30, .int u)] t.heap) (jA base)) ([.ref r0, .int a1, .int a2] : List Value).toArray s 0 0 (jA base) := ⟨_, rfl⟩
  rw [← hQ]
  have hl := lv_entry ([.ref r0, .int a1, .int a2]) (n := 3) (Nat.le_of_ble_eq_true rfl)
  rw [lg_entry_eq]
  generalize (lg_sl ([.ref r0, .int a1, .int a2]) ++ List.replicate (3 - (lg_sl ([.ref r0, .int a1, .int a2])).length) Slot.unset).toArray = ls at hl ⊢
  have hl : lv_has ls 3 [(0, .ref r0), (1, .int a1), (2, .int a2)] := hl
  generalize hR : (headSpec (jw yX13_token cX13_token 3 none) ({ frames := 0, cells := 0, slots := 0, locals := 0 })).room = R
  subst hH0
  have hh : jSt (dC, dI) B base G0 G0 EX13_token s.heap 0 0 [(r0, 15, 30, .int pk)] [] [] s.heap [] := jSt.start hX hP0 jMc.nil jIs.nil
  clear hX hP0
  have hk0 : (0 : Int32).toInt = 0 := by decide
  have hk1 : (1 : Int32).toInt = 1 := by decide
  have hly_15_28 := htw (u_lay RX13 TX13 28) (jWc_wsX130 _ (u_in_lay (by decide)))
  have hly_15_29 := htw (u_lay RX13 TX13 29) (jWc_wsX130 _ (u_in_lay (by decide)))
  have hly_15_30 := htw (u_lay RX13 TX13 30) (jWc_wsX130 _ (u_in_lay (by decide)))
  have hlk_71 := (htw (.fieldLink RX13 71 "ProofServerModel$Kernel" "kind" "[I") (jWr_15 _ (List.mem_of_getElem? (i := 4) rfl)))
  have hlk_140 := (htw (.fieldLink RX13 140 "ProofServerModel$Kernel" "tokens" "I") (jWr_60 _ (List.mem_of_getElem? (i := 9) rfl)))
  have hlk_74 := (htw (.fieldLink RX13 74 "ProofServerModel$Kernel" "what" "[I") (jWr_15 _ (List.mem_of_getElem? (i := 5) rfl)))
  have hrg_a1 := jb_rng a1
  have hrg_a2 := jb_rng a2
  refine lv_aload_n hx hb dX13_token_0 rfl (lv_at hl 0 rfl) ?_
  obtain ⟨v_1, hv_1, hh_2⟩ := hh.pin (C := RX13) (T := TX13) (N := 50) hB15 rfl (by decide) hg_r0 (i := 28) (by decide) rfl
  clear hh
  obtain ⟨kind_3, rfl, hg_kind_3⟩ := hv_1
  refine j7_read hx hb hown hK (C := RX13) (T := TX13) (N := 50) rfl hly_15_28 hlk_71 (hh_2.at 0 rfl) dX13_token_1 ?_
  refine lv_aload_n hx hb dX13_token_4 rfl (lv_at hl 0 rfl) ?_
  refine j7_read hx hb hown hK (C := RX13) (T := TX13) (N := 50) rfl hly_15_30 hlk_140 (hh_2.at 1 rfl) dX13_token_5 ?_
  refine lv_iload_n hx hb dX13_token_8 rfl (lv_at hl 1 rfl) ?_
  refine j7_iast hx hb hK hh_2 hB hB167 1 rfl (by decide) (by decide) rfl rfl rfl hg_kind_3 (x := pk.toInt) (rfl) (by omega) (trivial) dX13_token_9 (fun H_4 locs_4 hh_4 => ?_)
  clear hh_2
  refine lv_aload_n hx hb dX13_token_10 rfl (lv_at hl 0 rfl) ?_
  obtain ⟨v_5, hv_5, hh_6⟩ := hh_4.pin (C := RX13) (T := TX13) (N := 50) hB15 rfl (by decide) hg_r0 (i := 29) (by decide) rfl
  clear hh_4
  obtain ⟨what_7, rfl, hg_what_7⟩ := hv_5
  refine j7_read hx hb hown hK (C := RX13) (T := TX13) (N := 50) rfl hly_15_29 hlk_74 (hh_6.at 0 rfl) dX13_token_11 ?_
  refine lv_aload_n hx hb dX13_token_14 rfl (lv_at hl 0 rfl) ?_
  refine j7_read hx hb hown hK (C := RX13) (T := TX13) (N := 50) rfl hly_15_30 hlk_140 (hh_6.at 2 rfl) dX13_token_15 ?_
  refine lv_iload_n hx hb dX13_token_18 rfl (lv_at hl 2 rfl) ?_
  refine j7_iast hx hb hK hh_6 hB hB157 1 rfl (by decide) (by decide) rfl rfl rfl hg_what_7 (x := pk.toInt) (rfl) (by omega) (by first | omega | (refine ⟨?_, ?_⟩ <;> (first | omega | rfl | assumption | decide | exact Or.inl rfl | exact Or.inr rfl | (simp only; omega)))) dX13_token_19 (fun H_8 locs_8 hh_8 => ?_)
  clear hh_6
  refine lv_aload_n hx hb dX13_token_20 rfl (lv_at hl 0 rfl) ?_
  refine lv_dup hx hb dX13_token_21 rfl ?_
  refine j7_read hx hb hown hK (C := RX13) (T := TX13) (N := 50) rfl hly_15_30 hlk_140 (hh_8.at 2 rfl) dX13_token_22 ?_
  refine lv_iconst (v := 1) hx hb dX13_token_25 (by decide) ?_
  refine lv_iadd hx hb dX13_token_26 ?_
  refine lv_topi (fun z_9 ez_9 => ?_)
  have hz_9 : z_9.toInt = pk.toInt + 1 := by rw [ez_9]; exact jb_iadd2 (rfl) ((by decide)) (by omega)
  refine j7_put hx hb hown hK hh_8 hB hAp hB15 (C := RX13) (T := TX13) (N := 50) rfl (by decide) hg_r0 (i := 30) (by decide) hly_15_30 rfl hlk_140 rfl (ty := .int) (v := .int z_9) (by decide +kernel) rfl rfl (⟨_, rfl, by omega, by omega⟩) rfl (L1 := [(r0, 15, 29, .ref what_7), (r0, 15, 28, .ref kind_3)]) [0, 1] rfl rfl rfl dX13_token_27 (fun H_10 locs_10 hh_10 => ?_)
  clear hh_8
  rw [hQ]
  exact W.vret hx hb hr (fun t ht hW => ⟨⟨z_9, rfl, by first | omega | rfl | assumption | decide | exact Or.inl rfl | exact Or.inr rfl | (simp only; omega), hh_10.rt (M1 := [(r0, 15, 30, .int z_9)]) [0] rfl ht⟩, by rw [ht]; try exact hh_10.1.1, fun q h9 hq => by rw [ht]; try exact hh_10.1.2.1 q h9 hq⟩) hh_10.1.2.2 dX13_token_30
set_option maxHeartbeats 4000000 in
set_option maxRecDepth 20000 in
theorem uX13_isLetter (l : Launch) (dC : Nat → ClassId) (dI : Nat → Nat → Nat) (ca : Nat → ClassId) (base : Nat) (B : jF) (hB : jBok B) (hAp : jAp (dC, dI)) (G0 : jT) (H0 : Heap) (a0 : Int32) : Met l yX13_isLetter (jw yX13_isLetter cX13_isLetter 1 (some .boolean)) ({ frames := 1, cells := 0, slots := 0, locals := 22 }) (va_Pc [.int a0] (fun U => U.heap = H0 ∧ jX B base G0 [] H0 ∧ jG dC dI ca base U ∧ jP (dC, dI) G0 H0 [] ∧ True)) (va_Qi (S := Unit) (fun r u => (r = 0 ∨ r = 1) ∧ (r.toInt = jLt a0.toInt)) (fun u t => jRt (dC, dI) B base G0 EX13_isLetter H0 [] t.heap) (jA base)) 0 0 (jA base) := by
  refine Met.ofW (cc := cX13_isLetter) (maxL := 1) (ret := (some .boolean)) (by decide) rfl ?_
  intro p e s m args below meth c s₁ Bd hml hv
  obtain ⟨rfl, hH0, hX, hG, hP0, hp0⟩ := hv
  have hK := hG.1
  have hx := Bd.exec
  have hb := Bd.bytes
  have hr := Bd.returns
  have hts := atoms_spec (ws := (jw yX13_isLetter cX13_isLetter 1 (some .boolean))) Bd.pre
  have htw : ∀ w ∈ jWl, w.before _ s = true := fun w h => hts w (List.mem_cons_of_mem _ h)
  have hown : s.vm.findClass RX13 = some m.cls := findClass_of_methodNamed Bd.named
  have hlocks := Bd.notSynchronized
  obtain ⟨Q, hQ⟩ : ∃ Q, Q = MQ below (va_Qi (S := Unit) (fun r u => (r = 0 ∨ r = 1) ∧ (r.toInt = jLt a0.toInt)) (fun u t => jRt (dC, dI) B base G0 EX13_isLetter H0 [] t.heap) (jA base)) ([.int a0] : List Value).toArray s 0 0 (jA base) := ⟨_, rfl⟩
  rw [← hQ]
  have hl := lv_entry ([.int a0]) (n := 1) (Nat.le_of_ble_eq_true rfl)
  rw [lg_entry_eq]
  generalize (lg_sl ([.int a0]) ++ List.replicate (1 - (lg_sl ([.int a0])).length) Slot.unset).toArray = ls at hl ⊢
  have hl : lv_has ls 1 [(0, .int a0)] := hl
  generalize hR : (headSpec (jw yX13_isLetter cX13_isLetter 1 (some .boolean)) ({ frames := 1, cells := 0, slots := 0, locals := 22 })).room = R
  subst hH0
  have hh : jSt (dC, dI) B base G0 G0 EX13_isLetter s.heap 0 0 [] [] [] s.heap [] := jSt.start hX hP0 jMc.nil jIs.nil
  clear hX hP0
  have hk0 : (0 : Int32).toInt = 0 := by decide
  have hk1 : (1 : Int32).toInt = 1 := by decide
  have hk65 : (65 : Int32).toInt = 65 := by decide
  have hk90 : (90 : Int32).toInt = 90 := by decide
  have hk97 : (97 : Int32).toInt = 97 := by decide
  have hk122 : (122 : Int32).toInt = 122 := by decide
  have hrg_a0 := jb_rng a0
  refine lv_iload_n hx hb dX13_isLetter_0 rfl (lv_at hl 0 rfl) ?_
  refine lv_bipush (v := 97) hx hb dX13_isLetter_1 (by decide) ?_
  refine lv_bipush (v := 122) hx hb dX13_isLetter_3 (by decide) ?_
  refine va_calli (A0 := jA base) (H0 := s.heap) (va_runSN (As := [.int a0, .int 97, .int 122]) (rest := []) ⟨hx, hb, hml, hown, hts⟩ (uX14_in l dC dI ca base B hB hAp G0 s.heap a0 97 122) ⟨va_cnB 3 hts (jgW (jWr_48 _ (List.mem_of_getElem? (i := 12) rfl))) rfl rfl rfl (hG.2.2.1 RX13 132 yX14_in "ProofServerModel" (List.mem_of_getElem? (i := 2577) (by decide +kernel))) (htw (.initialized RX14) (jWr_1 _ (List.mem_of_getElem? (i := 5) rfl))) (by decide +kernel) ⟨by rw [← hR]; exact Nat.le_of_ble_eq_true rfl, by rw [← hR]; exact Nat.le_of_ble_eq_true rfl⟩, htw (.static yX14_in) (jWr_48 _ (List.mem_of_getElem? (i := 11) rfl)), trivial⟩ ⟨fun a U g mk q => by obtain ⟨q0, q1, q2, qK, q10, q11⟩ := q; exact ⟨q0, q1, q2, jG.calling g mk a qK, q10, q11⟩, fun U hU hW => ⟨rfl, hU, hh.2.1, hG.step hW hU hh.1, jP.nil, trivial⟩⟩ rfl rfl hl.1 rfl (lv_room (Nat.le_of_ble_eq_true rfl)) dX13_isLetter_5 ⟨Nat.zero_le _, Nat.zero_le _⟩) hh.1 (fun q _ h => h) (fun q h => h) (fun r_2 u_1 t_1 H_1 locs_1 ht_1 hvm_1 hr_2 hb_1 hz_1 hk_1 hS_1 => ?_)
  rw [ht_1] at hb_1
  obtain ⟨hb_11, hb_12, hb_13, hb_14, hb_15⟩ := hb_1
  have hh_1 : jSt (dC, dI) B base G0 G0 EX13_isLetter s.heap 0 0 [] [] [] H_1 locs_1 := ((hh.call hb_11 hb_12 hb_13 hb_14 hS_1 rfl (L1 := []) [] rfl rfl (M1 := []) [] rfl rfl (I1 := []) [] rfl rfl).more hb_15)
  clear hh ht_1 hvm_1 hz_1 hk_1 hS_1 hb_11 hb_12 hb_13 hb_14 hb_15
  obtain ⟨hr_2b, hr_2p⟩ := hr_2
  obtain ⟨hr_2p_0, hr_2p_1, hr_2p_2⟩ := hr_2p
  have hr_2' := jb_01 hr_2b
  refine lv_if_ne (tgt := 22) hx hb dX13_isLetter_8 (by decide) (fun c_3 => ?_) (fun c_3 => ?_)
  · skip
    have c_3' : r_2.toInt ≠ 0 := jb_ne (rfl) ((by decide)) c_3
    refine lv_iconst (v := 1) hx hb dX13_isLetter_22 (by decide) ?_
    refine lv_goto (tgt := 27) hx hb dX13_isLetter_23 (by decide) ?_
    rw [hQ]
    exact W.zret (v := 1) hx hb hr (jb_nz (Or.inr rfl)) (fun t ht hW => ⟨⟨1, (), rfl, ⟨(Or.inr rfl), by unfold jLt; rw [← hk97, ← hk122, ← hk65, ← hk90]; first | (rw [if_pos (by omega)]; decide) | (rw [if_neg (by omega)]; omega)⟩, hh_1.rt (M1 := []) [] rfl ht⟩, by rw [ht]; try exact hh_1.1.1, fun q h9 hq => by rw [ht]; try exact hh_1.1.2.1 q h9 hq⟩) hh_1.1.2.2 dX13_isLetter_27
  · skip
    have c_3' : r_2.toInt = 0 := jb_ne_n (rfl) ((by decide)) c_3
    refine lv_iload_n hx hb dX13_isLetter_11 rfl (lv_at hl 0 rfl) ?_
    refine lv_bipush (v := 65) hx hb dX13_isLetter_12 (by decide) ?_
    refine lv_bipush (v := 90) hx hb dX13_isLetter_14 (by decide) ?_
    refine va_calli (A0 := jA base) (H0 := s.heap) (va_runSN (As := [.int a0, .int 65, .int 90]) (rest := []) ⟨hx, hb, hml, hown, hts⟩ (uX14_in l dC dI ca base B hB hAp G0 H_1 a0 65 90) ⟨va_cnB 3 hts (jgW (jWr_48 _ (List.mem_of_getElem? (i := 12) rfl))) rfl rfl rfl (hG.2.2.1 RX13 132 yX14_in "ProofServerModel" (List.mem_of_getElem? (i := 2577) (by decide +kernel))) (htw (.initialized RX14) (jWr_1 _ (List.mem_of_getElem? (i := 5) rfl))) (by decide +kernel) ⟨by rw [← hR]; exact Nat.le_of_ble_eq_true rfl, by rw [← hR]; exact Nat.le_of_ble_eq_true rfl⟩, htw (.static yX14_in) (jWr_48 _ (List.mem_of_getElem? (i := 11) rfl)), trivial⟩ ⟨fun a U g mk q => by obtain ⟨q0, q1, q2, qK, q10, q11⟩ := q; exact ⟨q0, q1, q2, jG.calling g mk a qK, q10, q11⟩, fun U hU hW => ⟨rfl, hU, hh_1.2.1, hG.step hW hU hh_1.1, jP.nil, trivial⟩⟩ rfl rfl hl.1 rfl (lv_room (Nat.le_of_ble_eq_true rfl)) dX13_isLetter_16 ⟨Nat.zero_le _, Nat.zero_le _⟩) hh_1.1 (fun q _ h => h) (fun q h => h) (fun r_5 u_4 t_4 H_4 locs_4 ht_4 hvm_4 hr_5 hb_4 hz_4 hk_4 hS_4 => ?_)
    rw [ht_4] at hb_4
    obtain ⟨hb_41, hb_42, hb_43, hb_44, hb_45⟩ := hb_4
    have hh_4 : jSt (dC, dI) B base G0 G0 EX13_isLetter s.heap 0 0 [] [] [] H_4 locs_4 := ((hh_1.call hb_41 hb_42 hb_43 hb_44 hS_4 rfl (L1 := []) [] rfl rfl (M1 := []) [] rfl rfl (I1 := []) [] rfl rfl).more hb_45)
    clear hh_1 ht_4 hvm_4 hz_4 hk_4 hS_4 hb_41 hb_42 hb_43 hb_44 hb_45
    obtain ⟨hr_5b, hr_5p⟩ := hr_5
    obtain ⟨hr_5p_0, hr_5p_1, hr_5p_2⟩ := hr_5p
    have hr_5' := jb_01 hr_5b
    refine lv_if_eq (tgt := 26) hx hb dX13_isLetter_19 (by decide) (fun c_6 => ?_) (fun c_6 => ?_)
    · skip
      have c_6' : r_5.toInt = 0 := jb_eq (rfl) ((by decide)) c_6
      refine lv_iconst (v := 0) hx hb dX13_isLetter_26 (by decide) ?_
      rw [hQ]
      exact W.zret (v := 0) hx hb hr (jb_nz (Or.inl rfl)) (fun t ht hW => ⟨⟨0, (), rfl, ⟨(Or.inl rfl), by unfold jLt; rw [← hk97, ← hk122, ← hk65, ← hk90]; first | (rw [if_pos (by omega)]; decide) | (rw [if_neg (by omega)]; omega)⟩, hh_4.rt (M1 := []) [] rfl ht⟩, by rw [ht]; try exact hh_4.1.1, fun q h9 hq => by rw [ht]; try exact hh_4.1.2.1 q h9 hq⟩) hh_4.1.2.2 dX13_isLetter_27
    · skip
      have c_6' : r_5.toInt ≠ 0 := jb_eq_n (rfl) ((by decide)) c_6
      refine lv_iconst (v := 1) hx hb dX13_isLetter_22 (by decide) ?_
      refine lv_goto (tgt := 27) hx hb dX13_isLetter_23 (by decide) ?_
      rw [hQ]
      exact W.zret (v := 1) hx hb hr (jb_nz (Or.inr rfl)) (fun t ht hW => ⟨⟨1, (), rfl, ⟨(Or.inr rfl), by unfold jLt; rw [← hk97, ← hk122, ← hk65, ← hk90]; first | (rw [if_pos (by omega)]; decide) | (rw [if_neg (by omega)]; omega)⟩, hh_4.rt (M1 := []) [] rfl ht⟩, by rw [ht]; try exact hh_4.1.1, fun q h9 hq => by rw [ht]; try exact hh_4.1.2.1 q h9 hq⟩) hh_4.1.2.2 dX13_isLetter_27
set_option maxHeartbeats 4000000 in
set_option maxRecDepth 20000 in
theorem uX13_isNameSign (l : Launch) (dC : Nat → ClassId) (dI : Nat → Nat → Nat) (ca : Nat → ClassId) (base : Nat) (B : jF) (hB : jBok B) (hAp : jAp (dC, dI)) (G0 : jT) (H0 : Heap) (a0 : Int32) : Met l yX13_isNameSign (jw yX13_isNameSign cX13_isNameSign 1 (some .boolean)) ({ frames := 2, cells := 0, slots := 0, locals := 42 }) (va_Pc [.int a0] (fun U => U.heap = H0 ∧ jX B base G0 [] H0 ∧ jG dC dI ca base U ∧ jP (dC, dI) G0 H0 [] ∧ True)) (va_Qi (S := Unit) (fun r u => (r = 0 ∨ r = 1) ∧ (r.toInt = 1 ∨ jLt a0.toInt = 0)) (fun u t => jRt (dC, dI) B base G0 EX13_isNameSign H0 [] t.heap) (jA base)) 0 0 (jA base) := by
  refine Met.ofW (cc := cX13_isNameSign) (maxL := 1) (ret := (some .boolean)) (by decide) rfl ?_
  intro p e s m args below meth c s₁ Bd hml hv
  obtain ⟨rfl, hH0, hX, hG, hP0, hp0⟩ := hv
  have hK := hG.1
  have hx := Bd.exec
  have hb := Bd.bytes
  have hr := Bd.returns
  have hts := atoms_spec (ws := (jw yX13_isNameSign cX13_isNameSign 1 (some .boolean))) Bd.pre
  have htw : ∀ w ∈ jWl, w.before _ s = true := fun w h => hts w (List.mem_cons_of_mem _ h)
  have hown : s.vm.findClass RX13 = some m.cls := findClass_of_methodNamed Bd.named
  have hlocks := Bd.notSynchronized
  obtain ⟨Q, hQ⟩ : ∃ Q, Q = MQ below (va_Qi (S := Unit) (fun r u => (r = 0 ∨ r = 1) ∧ (r.toInt = 1 ∨ jLt a0.toInt = 0)) (fun u t => jRt (dC, dI) B base G0 EX13_isNameSign H0 [] t.heap) (jA base)) ([.int a0] : List Value).toArray s 0 0 (jA base) := ⟨_, rfl⟩
  rw [← hQ]
  have hl := lv_entry ([.int a0]) (n := 1) (Nat.le_of_ble_eq_true rfl)
  rw [lg_entry_eq]
  generalize (lg_sl ([.int a0]) ++ List.replicate (1 - (lg_sl ([.int a0])).length) Slot.unset).toArray = ls at hl ⊢
  have hl : lv_has ls 1 [(0, .int a0)] := hl
  generalize hR : (headSpec (jw yX13_isNameSign cX13_isNameSign 1 (some .boolean)) ({ frames := 2, cells := 0, slots := 0, locals := 42 })).room = R
  subst hH0
  have hh : jSt (dC, dI) B base G0 G0 EX13_isNameSign s.heap 0 0 [] [] [] s.heap [] := jSt.start hX hP0 jMc.nil jIs.nil
  clear hX hP0
  have hk0 : (0 : Int32).toInt = 0 := by decide
  have hk1 : (1 : Int32).toInt = 1 := by decide
  have hk39 : (39 : Int32).toInt = 39 := by decide
  have hk48 : (48 : Int32).toInt = 48 := by decide
  have hk57 : (57 : Int32).toInt = 57 := by decide
  have hk95 : (95 : Int32).toInt = 95 := by decide
  have hrg_a0 := jb_rng a0
  refine lv_iload_n hx hb dX13_isNameSign_0 rfl (lv_at hl 0 rfl) ?_
  refine va_calli (A0 := jA base) (H0 := s.heap) (va_runS (As := [.int a0]) (rest := []) ⟨hx, hb, hml, hown, hts⟩ (uX13_isLetter l dC dI ca base B hB hAp G0 s.heap a0) (va_cwS 1 hts (jgS (jWr_60 _ (List.mem_of_getElem? (i := 10) rfl)) (jWr_60 _ (List.mem_of_getElem? (i := 11) rfl)) (jWr_12 _ (List.mem_of_getElem? (i := 12) rfl)) (jWr_60 _ (List.mem_of_getElem? (i := 12) rfl))) rfl rfl rfl (by decide +kernel) ⟨by rw [← hR]; exact Nat.le_of_ble_eq_true rfl, by rw [← hR]; exact Nat.le_of_ble_eq_true rfl⟩) ⟨fun a U g mk q => by obtain ⟨q0, q1, q2, qK, q10, q11⟩ := q; exact ⟨q0, q1, q2, jG.calling g mk a qK, q10, q11⟩, fun U hU hW => ⟨rfl, hU, hh.2.1, hG.step hW hU hh.1, jP.nil, trivial⟩⟩ rfl rfl hl.1 rfl (lv_room (Nat.le_of_ble_eq_true rfl)) dX13_isNameSign_1 ⟨Nat.zero_le _, Nat.zero_le _⟩) hh.1 (fun q _ h => h) (fun q h => h) (fun r_2 u_1 t_1 H_1 locs_1 ht_1 hvm_1 hr_2 hb_1 hz_1 hk_1 hS_1 => ?_)
  rw [ht_1] at hb_1
  obtain ⟨hb_11, hb_12, hb_13, hb_14, hb_15⟩ := hb_1
  have hh_1 : jSt (dC, dI) B base G0 G0 EX13_isNameSign s.heap 0 0 [] [] [] H_1 locs_1 := ((hh.call hb_11 hb_12 hb_13 hb_14 hS_1 rfl (L1 := []) [] rfl rfl (M1 := []) [] rfl rfl (I1 := []) [] rfl rfl).more hb_15)
  clear hh ht_1 hvm_1 hz_1 hk_1 hS_1 hb_11 hb_12 hb_13 hb_14 hb_15
  obtain ⟨hr_2b, hr_2p⟩ := hr_2
  have hr_2' := jb_01 hr_2b
  refine lv_if_ne (tgt := 30) hx hb dX13_isNameSign_4 (by decide) (fun c_3 => ?_) (fun c_3 => ?_)
  · skip
    have c_3' : r_2.toInt ≠ 0 := jb_ne (rfl) ((by decide)) c_3
    refine lv_iconst (v := 1) hx hb dX13_isNameSign_30 (by decide) ?_
    refine lv_goto (tgt := 35) hx hb dX13_isNameSign_31 (by decide) ?_
    rw [hQ]
    exact W.zret (v := 1) hx hb hr (jb_nz (Or.inr rfl)) (fun t ht hW => ⟨⟨1, (), rfl, ⟨(Or.inr rfl), by first | omega | rfl | assumption | decide | exact Or.inl rfl | exact Or.inr rfl | (simp only; omega)⟩, hh_1.rt (M1 := []) [] rfl ht⟩, by rw [ht]; try exact hh_1.1.1, fun q h9 hq => by rw [ht]; try exact hh_1.1.2.1 q h9 hq⟩) hh_1.1.2.2 dX13_isNameSign_35
  · skip
    have c_3' : r_2.toInt = 0 := jb_ne_n (rfl) ((by decide)) c_3
    refine lv_iload_n hx hb dX13_isNameSign_7 rfl (lv_at hl 0 rfl) ?_
    refine lv_bipush (v := 48) hx hb dX13_isNameSign_8 (by decide) ?_
    refine lv_bipush (v := 57) hx hb dX13_isNameSign_10 (by decide) ?_
    refine va_calli (A0 := jA base) (H0 := s.heap) (va_runSN (As := [.int a0, .int 48, .int 57]) (rest := []) ⟨hx, hb, hml, hown, hts⟩ (uX14_in l dC dI ca base B hB hAp G0 H_1 a0 48 57) ⟨va_cnB 3 hts (jgW (jWr_48 _ (List.mem_of_getElem? (i := 12) rfl))) rfl rfl rfl (hG.2.2.1 RX13 132 yX14_in "ProofServerModel" (List.mem_of_getElem? (i := 2577) (by decide +kernel))) (htw (.initialized RX14) (jWr_1 _ (List.mem_of_getElem? (i := 5) rfl))) (by decide +kernel) ⟨by rw [← hR]; exact Nat.le_of_ble_eq_true rfl, by rw [← hR]; exact Nat.le_of_ble_eq_true rfl⟩, htw (.static yX14_in) (jWr_48 _ (List.mem_of_getElem? (i := 11) rfl)), trivial⟩ ⟨fun a U g mk q => by obtain ⟨q0, q1, q2, qK, q10, q11⟩ := q; exact ⟨q0, q1, q2, jG.calling g mk a qK, q10, q11⟩, fun U hU hW => ⟨rfl, hU, hh_1.2.1, hG.step hW hU hh_1.1, jP.nil, trivial⟩⟩ rfl rfl hl.1 rfl (lv_room (Nat.le_of_ble_eq_true rfl)) dX13_isNameSign_12 ⟨Nat.zero_le _, Nat.zero_le _⟩) hh_1.1 (fun q _ h => h) (fun q h => h) (fun r_5 u_4 t_4 H_4 locs_4 ht_4 hvm_4 hr_5 hb_4 hz_4 hk_4 hS_4 => ?_)
    rw [ht_4] at hb_4
    obtain ⟨hb_41, hb_42, hb_43, hb_44, hb_45⟩ := hb_4
    have hh_4 : jSt (dC, dI) B base G0 G0 EX13_isNameSign s.heap 0 0 [] [] [] H_4 locs_4 := ((hh_1.call hb_41 hb_42 hb_43 hb_44 hS_4 rfl (L1 := []) [] rfl rfl (M1 := []) [] rfl rfl (I1 := []) [] rfl rfl).more hb_45)
    clear hh_1 ht_4 hvm_4 hz_4 hk_4 hS_4 hb_41 hb_42 hb_43 hb_44 hb_45
    obtain ⟨hr_5b, hr_5p⟩ := hr_5
    obtain ⟨hr_5p_0, hr_5p_1, hr_5p_2⟩ := hr_5p
    have hr_5' := jb_01 hr_5b
    refine lv_if_ne (tgt := 30) hx hb dX13_isNameSign_15 (by decide) (fun c_6 => ?_) (fun c_6 => ?_)
    · skip
      have c_6' : r_5.toInt ≠ 0 := jb_ne (rfl) ((by decide)) c_6
      refine lv_iconst (v := 1) hx hb dX13_isNameSign_30 (by decide) ?_
      refine lv_goto (tgt := 35) hx hb dX13_isNameSign_31 (by decide) ?_
      rw [hQ]
      exact W.zret (v := 1) hx hb hr (jb_nz (Or.inr rfl)) (fun t ht hW => ⟨⟨1, (), rfl, ⟨(Or.inr rfl), by first | omega | rfl | assumption | decide | exact Or.inl rfl | exact Or.inr rfl | (simp only; omega)⟩, hh_4.rt (M1 := []) [] rfl ht⟩, by rw [ht]; try exact hh_4.1.1, fun q h9 hq => by rw [ht]; try exact hh_4.1.2.1 q h9 hq⟩) hh_4.1.2.2 dX13_isNameSign_35
    · skip
      have c_6' : r_5.toInt = 0 := jb_ne_n (rfl) ((by decide)) c_6
      refine lv_iload_n hx hb dX13_isNameSign_18 rfl (lv_at hl 0 rfl) ?_
      refine lv_bipush (v := 95) hx hb dX13_isNameSign_19 (by decide) ?_
      refine lv_icmp_eq (tgt := 30) hx hb dX13_isNameSign_21 (by decide) (fun c_7 => ?_) (fun c_7 => ?_)
      · skip
        have c_7' : a0.toInt = 95 := jb_eq (rfl) ((by decide)) c_7
        refine lv_iconst (v := 1) hx hb dX13_isNameSign_30 (by decide) ?_
        refine lv_goto (tgt := 35) hx hb dX13_isNameSign_31 (by decide) ?_
        rw [hQ]
        exact W.zret (v := 1) hx hb hr (jb_nz (Or.inr rfl)) (fun t ht hW => ⟨⟨1, (), rfl, ⟨(Or.inr rfl), by first | omega | rfl | assumption | decide | exact Or.inl rfl | exact Or.inr rfl | (simp only; omega)⟩, hh_4.rt (M1 := []) [] rfl ht⟩, by rw [ht]; try exact hh_4.1.1, fun q h9 hq => by rw [ht]; try exact hh_4.1.2.1 q h9 hq⟩) hh_4.1.2.2 dX13_isNameSign_35
      · skip
        have c_7' : a0.toInt ≠ 95 := jb_eq_n (rfl) ((by decide)) c_7
        refine lv_iload_n hx hb dX13_isNameSign_24 rfl (lv_at hl 0 rfl) ?_
        refine lv_bipush (v := 39) hx hb dX13_isNameSign_25 (by decide) ?_
        refine lv_icmp_ne (tgt := 34) hx hb dX13_isNameSign_27 (by decide) (fun c_8 => ?_) (fun c_8 => ?_)
        · skip
          have c_8' : a0.toInt ≠ 39 := jb_ne (rfl) ((by decide)) c_8
          refine lv_iconst (v := 0) hx hb dX13_isNameSign_34 (by decide) ?_
          rw [hQ]
          exact W.zret (v := 0) hx hb hr (jb_nz (Or.inl rfl)) (fun t ht hW => ⟨⟨0, (), rfl, ⟨(Or.inl rfl), by first | omega | rfl | assumption | decide | exact Or.inl rfl | exact Or.inr rfl | (simp only; omega)⟩, hh_4.rt (M1 := []) [] rfl ht⟩, by rw [ht]; try exact hh_4.1.1, fun q h9 hq => by rw [ht]; try exact hh_4.1.2.1 q h9 hq⟩) hh_4.1.2.2 dX13_isNameSign_35
        · skip
          have c_8' : a0.toInt = 39 := jb_ne_n (rfl) ((by decide)) c_8
          refine lv_iconst (v := 1) hx hb dX13_isNameSign_30 (by decide) ?_
          refine lv_goto (tgt := 35) hx hb dX13_isNameSign_31 (by decide) ?_
          rw [hQ]
          exact W.zret (v := 1) hx hb hr (jb_nz (Or.inr rfl)) (fun t ht hW => ⟨⟨1, (), rfl, ⟨(Or.inr rfl), by first | omega | rfl | assumption | decide | exact Or.inl rfl | exact Or.inr rfl | (simp only; omega)⟩, hh_4.rt (M1 := []) [] rfl ht⟩, by rw [ht]; try exact hh_4.1.1, fun q h9 hq => by rw [ht]; try exact hh_4.1.2.1 q h9 hq⟩) hh_4.1.2.2 dX13_isNameSign_35
set_option maxHeartbeats 4000000 in
set_option maxRecDepth 20000 in
theorem uX13_is (l : Launch) (dC : Nat → ClassId) (dI : Nat → Nat → Nat) (ca : Nat → ClassId) (base : Nat) (B : jF) (hB : jBok B) (hAp : jAp (dC, dI)) (hB15 : ∀ n G a H, B 15 n G a H ↔ jOb (dC, dI) 15 50 (F15 n G) a H) (hB157 : ∀ n G a H, B 157 n G a H ↔ jAr (dC, dI) (ca 1) (fun j z => 0 ≤ z.toInt ∧ z.toInt ≤ 1599) n a H) (hB167 : ∀ n G a H, B 167 n G a H ↔ jAr (dC, dI) (ca 1) (fun j z => True) n a H) (G0 : jT) (H0 : Heap) (r0 : Nat) (a1 : Int32) (pk : Int32) (pa : Int32) (ak : Nat) (n_ak : Nat) (aw : Nat) (n_aw : Nat) (fk : Nat → Int32) (fw : Nat → Int32) : Met l yX13_is (jw yX13_is cX13_is 2 (some .boolean)) ({ frames := 0, cells := 0, slots := 0, locals := 0 }) (va_Pc [.ref r0, .int a1] (fun U => U.heap = H0 ∧ jX B base G0 [] H0 ∧ jG dC dI ca base U ∧ G0 r0 = some (15, 0) ∧ G0 ak = some (167, n_ak) ∧ G0 aw = some (157, n_aw) ∧ jP (dC, dI) G0 H0 [(r0, 15, 30, .int pk), (r0, 15, 32, .int pa), (r0, 15, 28, .ref ak), (r0, 15, 29, .ref aw)] ∧ jMc (dC, dI) G0 H0 [(ak, 167, n_ak, ca 1, fk), (aw, 157, n_aw, ca 1, fw)] ∧ 0 ≤ pk.toInt ∧ pk.toInt ≤ 1500 ∧ 0 ≤ pa.toInt ∧ pa.toInt ≤ 1600 ∧ n_ak = 1500 ∧ n_aw = 1500)) (va_Qi (S := Unit) (fun r u => (r = 0 ∨ r = 1) ∧ (r.toInt = jTk fk fw pa.toInt pk.toInt a1.toInt ∧ pa.toInt + 1 ≤ pk.toInt + 100000 * (1 - r.toInt))) (fun u t => jRt (dC, dI) B base G0 EX13_is H0 [] t.heap) (jA base)) 0 0 (jA base) := by
  refine Met.ofW (cc := cX13_is) (maxL := 2) (ret := (some .boolean)) (by decide) rfl ?_
  intro p e s m args below meth c s₁ Bd hml hv
  obtain ⟨rfl, hH0, hX, hG, hg_r0, hg_ak, hg_aw, hP0, hM0, hp0, hp1, hp2, hp3, hp4, hp5⟩ := hv
  have hK := hG.1
  have hx := Bd.exec
  have hb := Bd.bytes
  have hr := Bd.returns
  have hts := atoms_spec (ws := (jw yX13_is cX13_is 2 (some .boolean))) Bd.pre
  have htw : ∀ w ∈ jWl, w.before _ s = true := fun w h => hts w (List.mem_cons_of_mem _ h)
  have hown : s.vm.findClass RX13 = some m.cls := findClass_of_methodNamed Bd.named
  have hlocks := Bd.notSynchronized
  obtain ⟨Q, hQ⟩ : ∃ Q, Q = MQ below (va_Qi (S := Unit) (fun r u => (r = 0 ∨ r = 1) ∧ (r.toInt = jTk fk fw pa.toInt pk.toInt a1.toInt ∧ pa.toInt + 1 ≤ pk.toInt + 100000 * (1 - r.toInt))) (fun u t => jRt (dC, dI) B base G0 EX13_is H0 [] t.heap) (jA base)) ([.ref r0, .int a1] : List Value).toArray s 0 0 (jA base) := ⟨_, rfl⟩
  rw [← hQ]
  have hl := lv_entry ([.ref r0, .int a1]) (n := 2) (Nat.le_of_ble_eq_true rfl)
  rw [lg_entry_eq]
  generalize (lg_sl ([.ref r0, .int a1]) ++ List.replicate (2 - (lg_sl ([.ref r0, .int a1])).length) Slot.unset).toArray = ls at hl ⊢
  have hl : lv_has ls 2 [(0, .ref r0), (1, .int a1)] := hl
  generalize hR : (headSpec (jw yX13_is cX13_is 2 (some .boolean)) ({ frames := 0, cells := 0, slots := 0, locals := 0 })).room = R
  subst hH0
  have hh : jSt (dC, dI) B base G0 G0 EX13_is s.heap 0 0 [(r0, 15, 30, .int pk), (r0, 15, 32, .int pa), (r0, 15, 28, .ref ak), (r0, 15, 29, .ref aw)] [(ak, 167, n_ak, ca 1, fk), (aw, 157, n_aw, ca 1, fw)] [] s.heap [] := jSt.start hX hP0 hM0 jIs.nil
  clear hX hP0
  have hk0 : (0 : Int32).toInt = 0 := by decide
  have hk1 : (1 : Int32).toInt = 1 := by decide
  have hk3 : (3 : Int32).toInt = 3 := by decide
  have hly_15_28 := htw (u_lay RX13 TX13 28) (jWc_wsX130 _ (u_in_lay (by decide)))
  have hly_15_29 := htw (u_lay RX13 TX13 29) (jWc_wsX130 _ (u_in_lay (by decide)))
  have hly_15_30 := htw (u_lay RX13 TX13 30) (jWc_wsX130 _ (u_in_lay (by decide)))
  have hly_15_32 := htw (u_lay RX13 TX13 32) (jWc_wsX130 _ (u_in_lay (by decide)))
  have hlk_171 := (htw (.fieldLink RX13 171 "ProofServerModel$Kernel" "at" "I") (jWr_61 _ (List.mem_of_getElem? (i := 11) rfl)))
  have hlk_140 := (htw (.fieldLink RX13 140 "ProofServerModel$Kernel" "tokens" "I") (jWr_60 _ (List.mem_of_getElem? (i := 9) rfl)))
  have hlk_71 := (htw (.fieldLink RX13 71 "ProofServerModel$Kernel" "kind" "[I") (jWr_15 _ (List.mem_of_getElem? (i := 4) rfl)))
  have hlk_74 := (htw (.fieldLink RX13 74 "ProofServerModel$Kernel" "what" "[I") (jWr_15 _ (List.mem_of_getElem? (i := 5) rfl)))
  have hrg_a1 := jb_rng a1
  refine lv_aload_n hx hb dX13_is_0 rfl (lv_at hl 0 rfl) ?_
  refine j7_read hx hb hown hK (C := RX13) (T := TX13) (N := 50) rfl hly_15_32 hlk_171 (hh.at 1 rfl) dX13_is_1 ?_
  refine lv_aload_n hx hb dX13_is_4 rfl (lv_at hl 0 rfl) ?_
  refine j7_read hx hb hown hK (C := RX13) (T := TX13) (N := 50) rfl hly_15_30 hlk_140 (hh.at 0 rfl) dX13_is_5 ?_
  refine lv_icmp_ge (tgt := 41) hx hb dX13_is_8 (by decide) (fun c_1 => ?_) (fun c_1 => ?_)
  · skip
    have c_1' : pa.toInt ≥ pk.toInt := jb_ge (rfl) (rfl) c_1
    refine lv_iconst (v := 0) hx hb dX13_is_41 (by decide) ?_
    rw [hQ]
    exact W.zret (v := 0) hx hb hr (jb_nz (Or.inl rfl)) (fun t ht hW => ⟨⟨0, (), rfl, ⟨(Or.inl rfl), by refine ⟨by unfold jTk; first | (rw [if_pos (by omega)]; decide) | (rw [if_neg (by omega)]; decide), by omega⟩⟩, hh.rt (M1 := []) [] rfl ht⟩, by rw [ht]; try exact hh.1.1, fun q h9 hq => by rw [ht]; try exact hh.1.2.1 q h9 hq⟩) hh.1.2.2 dX13_is_42
  · skip
    have c_1' : pa.toInt < pk.toInt := jb_ge_n (rfl) (rfl) c_1
    refine lv_aload_n hx hb dX13_is_11 rfl (lv_at hl 0 rfl) ?_
    refine j7_read hx hb hown hK (C := RX13) (T := TX13) (N := 50) rfl hly_15_28 hlk_71 (hh.at 2 rfl) dX13_is_12 ?_
    refine lv_aload_n hx hb dX13_is_15 rfl (lv_at hl 0 rfl) ?_
    refine j7_read hx hb hown hK (C := RX13) (T := TX13) (N := 50) rfl hly_15_32 hlk_171 (hh.at 1 rfl) dX13_is_16 ?_
    refine j7_ialdM hx hb hK hh hB167 1 rfl (by decide) hg_ak (x := pa.toInt) (rfl) (by omega) (j := 0) rfl dX13_is_19 (fun z_2 ez_2 (hz_2 : True) => ?_)
    have hqz_2 : z_2.toInt = (fk (pa.toInt).toNat).toInt := by rw [ez_2]
    refine lv_iconst (v := 3) hx hb dX13_is_20 (by decide) ?_
    refine lv_icmp_ne (tgt := 41) hx hb dX13_is_21 (by decide) (fun c_3 => ?_) (fun c_3 => ?_)
    · skip
      have c_3' : z_2.toInt ≠ 3 := jb_ne (rfl) ((by decide)) c_3
      refine lv_iconst (v := 0) hx hb dX13_is_41 (by decide) ?_
      rw [hQ]
      exact W.zret (v := 0) hx hb hr (jb_nz (Or.inl rfl)) (fun t ht hW => ⟨⟨0, (), rfl, ⟨(Or.inl rfl), by refine ⟨by unfold jTk; first | (rw [if_pos (by omega)]; decide) | (rw [if_neg (by omega)]; decide), by omega⟩⟩, hh.rt (M1 := []) [] rfl ht⟩, by rw [ht]; try exact hh.1.1, fun q h9 hq => by rw [ht]; try exact hh.1.2.1 q h9 hq⟩) hh.1.2.2 dX13_is_42
    · skip
      have c_3' : z_2.toInt = 3 := jb_ne_n (rfl) ((by decide)) c_3
      refine lv_aload_n hx hb dX13_is_24 rfl (lv_at hl 0 rfl) ?_
      refine j7_read hx hb hown hK (C := RX13) (T := TX13) (N := 50) rfl hly_15_29 hlk_74 (hh.at 3 rfl) dX13_is_25 ?_
      refine lv_aload_n hx hb dX13_is_28 rfl (lv_at hl 0 rfl) ?_
      refine j7_read hx hb hown hK (C := RX13) (T := TX13) (N := 50) rfl hly_15_32 hlk_171 (hh.at 1 rfl) dX13_is_29 ?_
      refine j7_ialdM hx hb hK hh hB157 1 rfl (by decide) hg_aw (x := pa.toInt) (rfl) (by omega) (j := 1) rfl dX13_is_32 (fun z_4 ez_4 (hz_4 : 0 ≤ z_4.toInt ∧ z_4.toInt ≤ 1599) => ?_)
      have hqz_4 : z_4.toInt = (fw (pa.toInt).toNat).toInt := by rw [ez_4]
      refine lv_iload_n hx hb dX13_is_33 rfl (lv_at hl 1 rfl) ?_
      refine lv_icmp_ne (tgt := 41) hx hb dX13_is_34 (by decide) (fun c_5 => ?_) (fun c_5 => ?_)
      · skip
        have c_5' : z_4.toInt ≠ a1.toInt := jb_ne (rfl) (rfl) c_5
        refine lv_iconst (v := 0) hx hb dX13_is_41 (by decide) ?_
        rw [hQ]
        exact W.zret (v := 0) hx hb hr (jb_nz (Or.inl rfl)) (fun t ht hW => ⟨⟨0, (), rfl, ⟨(Or.inl rfl), by refine ⟨by unfold jTk; first | (rw [if_pos (by omega)]; decide) | (rw [if_neg (by omega)]; decide), by omega⟩⟩, hh.rt (M1 := []) [] rfl ht⟩, by rw [ht]; try exact hh.1.1, fun q h9 hq => by rw [ht]; try exact hh.1.2.1 q h9 hq⟩) hh.1.2.2 dX13_is_42
      · skip
        have c_5' : z_4.toInt = a1.toInt := jb_ne_n (rfl) (rfl) c_5
        refine lv_iconst (v := 1) hx hb dX13_is_37 (by decide) ?_
        refine lv_goto (tgt := 42) hx hb dX13_is_38 (by decide) ?_
        rw [hQ]
        exact W.zret (v := 1) hx hb hr (jb_nz (Or.inr rfl)) (fun t ht hW => ⟨⟨1, (), rfl, ⟨(Or.inr rfl), by refine ⟨by unfold jTk; first | (rw [if_pos (by omega)]; decide) | (rw [if_neg (by omega)]; decide), by omega⟩⟩, hh.rt (M1 := []) [] rfl ht⟩, by rw [ht]; try exact hh.1.1, fun q h9 hq => by rw [ht]; try exact hh.1.2.1 q h9 hq⟩) hh.1.2.2 dX13_is_42
set_option maxHeartbeats 4000000 in
set_option maxRecDepth 20000 in
theorem uX13_isWord (l : Launch) (dC : Nat → ClassId) (dI : Nat → Nat → Nat) (ca : Nat → ClassId) (base : Nat) (B : jF) (hB : jBok B) (hAp : jAp (dC, dI)) (hB15 : ∀ n G a H, B 15 n G a H ↔ jOb (dC, dI) 15 50 (F15 n G) a H) (hB155 : ∀ n G a H, B 155 n G a H ↔ jAr (dC, dI) (ca 1) (fun j z => 0 ≤ z.toInt ∧ z.toInt ≤ 11990) n a H) (hB156 : ∀ n G a H, B 156 n G a H ↔ jAr (dC, dI) (ca 1) (fun j z => 0 ≤ z.toInt ∧ z.toInt ≤ 10) n a H) (hB157 : ∀ n G a H, B 157 n G a H ↔ jAr (dC, dI) (ca 1) (fun j z => 0 ≤ z.toInt ∧ z.toInt ≤ 1599) n a H) (hB166 : ∀ n G a H, B 166 n G a H ↔ jAr (dC, dI) (ca 1) (fun j z => True) n a H) (hB167 : ∀ n G a H, B 167 n G a H ↔ jAr (dC, dI) (ca 1) (fun j z => True) n a H) (G0 : jT) (H0 : Heap) (r0 : Nat) (r1 : Nat) (n1 : Nat) (pk : Int32) (pa : Int32) : Met l yX13_isWord (jw yX13_isWord cX13_isWord 2 (some .boolean)) ({ frames := 5, cells := 0, slots := 0, locals := 165 }) (va_Pc [.ref r0, .ref r1] (fun U => U.heap = H0 ∧ jX B base G0 [] H0 ∧ jG dC dI ca base U ∧ jStr base r1 n1 U H0 ∧ G0 r0 = some (15, 0) ∧ jP (dC, dI) G0 H0 [(r0, 15, 30, .int pk), (r0, 15, 32, .int pa)] ∧ 0 ≤ pk.toInt ∧ pk.toInt ≤ 1500 ∧ 0 ≤ pa.toInt ∧ pa.toInt ≤ 1600 ∧ n1 ≤ 1000)) (va_Qi (S := Unit) (fun r u => (r = 0 ∨ r = 1) ∧ (r.toInt = 0 ∨ pa.toInt < pk.toInt)) (fun u t => jRt (dC, dI) B base G0 EX13_isWord H0 [] t.heap) (jA base)) 0 0 (jA base) := by
  refine Met.ofW (cc := cX13_isWord) (maxL := 2) (ret := (some .boolean)) (by decide) rfl ?_
  intro p e s m args below meth c s₁ Bd hml hv
  obtain ⟨rfl, hH0, hX, hG, hstr_r1, hg_r0, hP0, hp0, hp1, hp2, hp3, hp4⟩ := hv
  have hK := hG.1
  have hx := Bd.exec
  have hb := Bd.bytes
  have hr := Bd.returns
  have hts := atoms_spec (ws := (jw yX13_isWord cX13_isWord 2 (some .boolean))) Bd.pre
  have htw : ∀ w ∈ jWl, w.before _ s = true := fun w h => hts w (List.mem_cons_of_mem _ h)
  have hown : s.vm.findClass RX13 = some m.cls := findClass_of_methodNamed Bd.named
  have hlocks := Bd.notSynchronized
  obtain ⟨Q, hQ⟩ : ∃ Q, Q = MQ below (va_Qi (S := Unit) (fun r u => (r = 0 ∨ r = 1) ∧ (r.toInt = 0 ∨ pa.toInt < pk.toInt)) (fun u t => jRt (dC, dI) B base G0 EX13_isWord H0 [] t.heap) (jA base)) ([.ref r0, .ref r1] : List Value).toArray s 0 0 (jA base) := ⟨_, rfl⟩
  rw [← hQ]
  have hl := lv_entry ([.ref r0, .ref r1]) (n := 2) (Nat.le_of_ble_eq_true rfl)
  rw [lg_entry_eq]
  generalize (lg_sl ([.ref r0, .ref r1]) ++ List.replicate (2 - (lg_sl ([.ref r0, .ref r1])).length) Slot.unset).toArray = ls at hl ⊢
  have hl : lv_has ls 2 [(0, .ref r0), (1, .ref r1)] := hl
  generalize hR : (headSpec (jw yX13_isWord cX13_isWord 2 (some .boolean)) ({ frames := 5, cells := 0, slots := 0, locals := 165 })).room = R
  subst hH0
  have hh : jSt (dC, dI) B base G0 G0 EX13_isWord s.heap 0 0 [(r0, 15, 30, .int pk), (r0, 15, 32, .int pa)] [] [] s.heap [] := jSt.start hX hP0 jMc.nil jIs.nil
  clear hX hP0
  have hk0 : (0 : Int32).toInt = 0 := by decide
  have hk1 : (1 : Int32).toInt = 1 := by decide
  have hly_15_28 := htw (u_lay RX13 TX13 28) (jWc_wsX130 _ (u_in_lay (by decide)))
  have hly_15_29 := htw (u_lay RX13 TX13 29) (jWc_wsX130 _ (u_in_lay (by decide)))
  have hly_15_30 := htw (u_lay RX13 TX13 30) (jWc_wsX130 _ (u_in_lay (by decide)))
  have hly_15_32 := htw (u_lay RX13 TX13 32) (jWc_wsX130 _ (u_in_lay (by decide)))
  have hlk_171 := (htw (.fieldLink RX13 171 "ProofServerModel$Kernel" "at" "I") (jWr_61 _ (List.mem_of_getElem? (i := 11) rfl)))
  have hlk_140 := (htw (.fieldLink RX13 140 "ProofServerModel$Kernel" "tokens" "I") (jWr_60 _ (List.mem_of_getElem? (i := 9) rfl)))
  have hlk_71 := (htw (.fieldLink RX13 71 "ProofServerModel$Kernel" "kind" "[I") (jWr_15 _ (List.mem_of_getElem? (i := 4) rfl)))
  have hlk_74 := (htw (.fieldLink RX13 74 "ProofServerModel$Kernel" "what" "[I") (jWr_15 _ (List.mem_of_getElem? (i := 5) rfl)))
  refine lv_aload_n hx hb dX13_isWord_0 rfl (lv_at hl 0 rfl) ?_
  refine j7_read hx hb hown hK (C := RX13) (T := TX13) (N := 50) rfl hly_15_32 hlk_171 (hh.at 1 rfl) dX13_isWord_1 ?_
  refine lv_aload_n hx hb dX13_isWord_4 rfl (lv_at hl 0 rfl) ?_
  refine j7_read hx hb hown hK (C := RX13) (T := TX13) (N := 50) rfl hly_15_30 hlk_140 (hh.at 0 rfl) dX13_isWord_5 ?_
  refine lv_icmp_ge (tgt := 45) hx hb dX13_isWord_8 (by decide) (fun c_1 => ?_) (fun c_1 => ?_)
  · skip
    have c_1' : pa.toInt ≥ pk.toInt := jb_ge (rfl) (rfl) c_1
    refine lv_iconst (v := 0) hx hb dX13_isWord_45 (by decide) ?_
    rw [hQ]
    exact W.zret (v := 0) hx hb hr (jb_nz (Or.inl rfl)) (fun t ht hW => ⟨⟨0, (), rfl, ⟨(Or.inl rfl), by first | omega | rfl | assumption | decide | exact Or.inl rfl | exact Or.inr rfl | (simp only; omega)⟩, hh.rt (M1 := []) [] rfl ht⟩, by rw [ht]; try exact hh.1.1, fun q h9 hq => by rw [ht]; try exact hh.1.2.1 q h9 hq⟩) hh.1.2.2 dX13_isWord_46
  · skip
    have c_1' : pa.toInt < pk.toInt := jb_ge_n (rfl) (rfl) c_1
    refine lv_aload_n hx hb dX13_isWord_11 rfl (lv_at hl 0 rfl) ?_
    obtain ⟨v_2, hv_2, hh_3⟩ := hh.pin (C := RX13) (T := TX13) (N := 50) hB15 rfl (by decide) hg_r0 (i := 28) (by decide) rfl
    clear hh
    obtain ⟨kind_4, rfl, hg_kind_4⟩ := hv_2
    refine j7_read hx hb hown hK (C := RX13) (T := TX13) (N := 50) rfl hly_15_28 hlk_71 (hh_3.at 0 rfl) dX13_isWord_12 ?_
    refine lv_aload_n hx hb dX13_isWord_15 rfl (lv_at hl 0 rfl) ?_
    refine j7_read hx hb hown hK (C := RX13) (T := TX13) (N := 50) rfl hly_15_32 hlk_171 (hh_3.at 2 rfl) dX13_isWord_16 ?_
    refine j7_iald hx hb hK hh_3 hB167 1 rfl (by decide) hg_kind_4 (x := pa.toInt) (rfl) (by omega) dX13_isWord_19 (fun z_5 (hz_5 : True) => ?_)
    refine lv_iconst (v := 1) hx hb dX13_isWord_20 (by decide) ?_
    refine lv_icmp_ne (tgt := 45) hx hb dX13_isWord_21 (by decide) (fun c_6 => ?_) (fun c_6 => ?_)
    · skip
      have c_6' : z_5.toInt ≠ 1 := jb_ne (rfl) ((by decide)) c_6
      refine lv_iconst (v := 0) hx hb dX13_isWord_45 (by decide) ?_
      rw [hQ]
      exact W.zret (v := 0) hx hb hr (jb_nz (Or.inl rfl)) (fun t ht hW => ⟨⟨0, (), rfl, ⟨(Or.inl rfl), by first | omega | rfl | assumption | decide | exact Or.inl rfl | exact Or.inr rfl | (simp only; omega)⟩, hh_3.rt (M1 := []) [] rfl ht⟩, by rw [ht]; try exact hh_3.1.1, fun q h9 hq => by rw [ht]; try exact hh_3.1.2.1 q h9 hq⟩) hh_3.1.2.2 dX13_isWord_46
    · skip
      have c_6' : z_5.toInt = 1 := jb_ne_n (rfl) ((by decide)) c_6
      refine lv_aload_n hx hb dX13_isWord_24 rfl (lv_at hl 0 rfl) ?_
      refine lv_aload_n hx hb dX13_isWord_25 rfl (lv_at hl 0 rfl) ?_
      obtain ⟨v_7, hv_7, hh_8⟩ := hh_3.pin (C := RX13) (T := TX13) (N := 50) hB15 rfl (by decide) hg_r0 (i := 29) (by decide) rfl
      clear hh_3
      obtain ⟨what_9, rfl, hg_what_9⟩ := hv_7
      refine j7_read hx hb hown hK (C := RX13) (T := TX13) (N := 50) rfl hly_15_29 hlk_74 (hh_8.at 0 rfl) dX13_isWord_26 ?_
      refine lv_aload_n hx hb dX13_isWord_29 rfl (lv_at hl 0 rfl) ?_
      refine j7_read hx hb hown hK (C := RX13) (T := TX13) (N := 50) rfl hly_15_32 hlk_171 (hh_8.at 3 rfl) dX13_isWord_30 ?_
      refine j7_iald hx hb hK hh_8 hB157 1 rfl (by decide) hg_what_9 (x := pa.toInt) (rfl) (by omega) dX13_isWord_33 (fun z_10 (hz_10 : 0 ≤ z_10.toInt ∧ z_10.toInt ≤ 1599) => ?_)
      refine lv_aload_n hx hb dX13_isWord_34 rfl (lv_at hl 1 rfl) ?_
      refine va_calli (A0 := jA base) (H0 := s.heap) (va_runV (As := [.int z_10, .ref r1]) (rest := []) ⟨hx, hb, hml, hown, hts⟩ (uX13_isNamed l dC dI ca base B hB hAp hB15 hB155 hB156 hB166 G0 s.heap r0 z_10 r1 n1) (cwV 2 hts (jgV (jWr_62 _ (List.mem_of_getElem? (i := 5) rfl)) (jWr_62 _ (List.mem_of_getElem? (i := 6) rfl)) (jWr_62 _ (List.mem_of_getElem? (i := 7) rfl)) (jWr_12 _ (List.mem_of_getElem? (i := 12) rfl)) (jWr_62 _ (List.mem_of_getElem? (i := 8) rfl))) rfl rfl rfl (by decide +kernel) ⟨by rw [← hR]; exact Nat.le_of_ble_eq_true rfl, by rw [← hR]; exact Nat.le_of_ble_eq_true rfl⟩) ⟨fun a U g mk q => by obtain ⟨q0, q1, q2, qK, q10, q11, q12, q13⟩ := q; exact ⟨q0, q1, q2, jG.calling g mk a qK, (q10.moved (Vm.Alike.refl U.vm)), q11, q12, q13⟩, hh_8.recv (C := RX13) (T := TX13) (N := 50) hB15 rfl (by decide) hg_r0 hK, fun U hU hW => ⟨rfl, hU, hh_8.2.1, hG.step hW hU hh_8.1, (hstr_r1.moved hW.alike).kept hh_8.1.2.1, hg_r0, jP.nil, by first | omega | (refine ⟨?_, ?_, ?_⟩ <;> (first | omega | rfl | assumption | decide | exact Or.inl rfl | exact Or.inr rfl | (simp only; omega)))⟩⟩ rfl rfl hl.1 rfl (lv_room (Nat.le_of_ble_eq_true rfl)) dX13_isWord_35 ⟨Nat.zero_le _, Nat.zero_le _⟩) hh_8.1 (fun q _ h => h) (fun q h => h) (fun r_12 u_11 t_11 H_11 locs_11 ht_11 hvm_11 hr_12 hb_11 hz_11 hk_11 hS_11 => ?_)
      rw [ht_11] at hb_11
      obtain ⟨hb_111, hb_112, hb_113, hb_114, hb_115⟩ := hb_11
      have hh_11 : jSt (dC, dI) B base G0 G0 EX13_isWord s.heap 0 0 [(r0, 15, 29, .ref what_9), (r0, 15, 28, .ref kind_4), (r0, 15, 30, .int pk), (r0, 15, 32, .int pa)] [] [] H_11 locs_11 := ((hh_8.call hb_111 hb_112 hb_113 hb_114 hS_11 rfl (L1 := [(r0, 15, 29, .ref what_9), (r0, 15, 28, .ref kind_4), (r0, 15, 30, .int pk), (r0, 15, 32, .int pa)]) [0, 1, 2, 3] rfl rfl (M1 := []) [] rfl rfl (I1 := []) [] rfl rfl).more hb_115)
      clear hh_8 ht_11 hvm_11 hz_11 hk_11 hS_11 hb_111 hb_112 hb_113 hb_114 hb_115
      obtain ⟨hr_12b, hr_12p⟩ := hr_12
      have hr_12' := jb_01 hr_12b
      refine lv_if_eq (tgt := 45) hx hb dX13_isWord_38 (by decide) (fun c_13 => ?_) (fun c_13 => ?_)
      · skip
        have c_13' : r_12.toInt = 0 := jb_eq (rfl) ((by decide)) c_13
        refine lv_iconst (v := 0) hx hb dX13_isWord_45 (by decide) ?_
        rw [hQ]
        exact W.zret (v := 0) hx hb hr (jb_nz (Or.inl rfl)) (fun t ht hW => ⟨⟨0, (), rfl, ⟨(Or.inl rfl), by first | omega | rfl | assumption | decide | exact Or.inl rfl | exact Or.inr rfl | (simp only; omega)⟩, hh_11.rt (M1 := []) [] rfl ht⟩, by rw [ht]; try exact hh_11.1.1, fun q h9 hq => by rw [ht]; try exact hh_11.1.2.1 q h9 hq⟩) hh_11.1.2.2 dX13_isWord_46
      · skip
        have c_13' : r_12.toInt ≠ 0 := jb_eq_n (rfl) ((by decide)) c_13
        refine lv_iconst (v := 1) hx hb dX13_isWord_41 (by decide) ?_
        refine lv_goto (tgt := 46) hx hb dX13_isWord_42 (by decide) ?_
        rw [hQ]
        exact W.zret (v := 1) hx hb hr (jb_nz (Or.inr rfl)) (fun t ht hW => ⟨⟨1, (), rfl, ⟨(Or.inr rfl), by first | omega | rfl | assumption | decide | exact Or.inl rfl | exact Or.inr rfl | (simp only; omega)⟩, hh_11.rt (M1 := []) [] rfl ht⟩, by rw [ht]; try exact hh_11.1.1, fun q h9 hq => by rw [ht]; try exact hh_11.1.2.1 q h9 hq⟩) hh_11.1.2.2 dX13_isWord_46
set_option maxHeartbeats 4000000 in
set_option maxRecDepth 20000 in
theorem uX13_isVariable (l : Launch) (dC : Nat → ClassId) (dI : Nat → Nat → Nat) (ca : Nat → ClassId) (base : Nat) (B : jF) (hB : jBok B) (hAp : jAp (dC, dI)) (hB15 : ∀ n G a H, B 15 n G a H ↔ jOb (dC, dI) 15 50 (F15 n G) a H) (hB158 : ∀ n G a H, B 158 n G a H ↔ jAr (dC, dI) (ca 1) (fun j z => 0 ≤ z.toInt ∧ z.toInt ≤ 6) n a H) (hB163 : ∀ n G a H, B 163 n G a H ↔ jAr (dC, dI) (ca 1) (fun j z => 0 ≤ z.toInt ∧ z.toInt ≤ 1599) n a H) (G0 : jT) (H0 : Heap) (r0 : Nat) (a1 : Int32) : Met l yX13_isVariable (jw yX13_isVariable cX13_isVariable 3 (some .boolean)) ({ frames := 0, cells := 0, slots := 0, locals := 0 }) (va_Pc [.ref r0, .int a1] (fun U => U.heap = H0 ∧ jX B base G0 [] H0 ∧ jG dC dI ca base U ∧ G0 r0 = some (15, 0) ∧ jP (dC, dI) G0 H0 [] ∧ True)) (va_Qi (S := Unit) (fun r u => (r = 0 ∨ r = 1) ∧ (True)) (fun u t => jRt (dC, dI) B base G0 EX13_isVariable H0 [] t.heap) (jA base)) 0 0 (jA base) := by
  refine Met.ofW (cc := cX13_isVariable) (maxL := 3) (ret := (some .boolean)) (by decide) rfl ?_
  intro p e s m args below meth c s₁ Bd hml hv
  obtain ⟨rfl, hH0, hX, hG, hg_r0, hP0, hp0⟩ := hv
  have hK := hG.1
  have hx := Bd.exec
  have hb := Bd.bytes
  have hr := Bd.returns
  have hts := atoms_spec (ws := (jw yX13_isVariable cX13_isVariable 3 (some .boolean))) Bd.pre
  have htw : ∀ w ∈ jWl, w.before _ s = true := fun w h => hts w (List.mem_cons_of_mem _ h)
  have hown : s.vm.findClass RX13 = some m.cls := findClass_of_methodNamed Bd.named
  have hlocks := Bd.notSynchronized
  obtain ⟨Q, hQ⟩ : ∃ Q, Q = MQ below (va_Qi (S := Unit) (fun r u => (r = 0 ∨ r = 1) ∧ (True)) (fun u t => jRt (dC, dI) B base G0 EX13_isVariable H0 [] t.heap) (jA base)) ([.ref r0, .int a1] : List Value).toArray s 0 0 (jA base) := ⟨_, rfl⟩
  rw [← hQ]
  have hl := lv_entry ([.ref r0, .int a1]) (n := 3) (Nat.le_of_ble_eq_true rfl)
  rw [lg_entry_eq]
  generalize (lg_sl ([.ref r0, .int a1]) ++ List.replicate (3 - (lg_sl ([.ref r0, .int a1])).length) Slot.unset).toArray = ls at hl ⊢
  have hl : lv_has ls 3 [(0, .ref r0), (1, .int a1)] := hl
  generalize hR : (headSpec (jw yX13_isVariable cX13_isVariable 3 (some .boolean)) ({ frames := 0, cells := 0, slots := 0, locals := 0 })).room = R
  subst hH0
  have hh : jSt (dC, dI) B base G0 G0 EX13_isVariable s.heap 0 0 [] [] [] s.heap [] := jSt.start hX hP0 jMc.nil jIs.nil
  clear hX hP0
  have hk0 : (0 : Int32).toInt = 0 := by decide
  have hk1 : (1 : Int32).toInt = 1 := by decide
  have hly_15_21 := htw (u_lay RX13 TX13 21) (jWc_wsX130 _ (u_in_lay (by decide)))
  have hly_15_23 := htw (u_lay RX13 TX13 23) (jWc_wsX130 _ (u_in_lay (by decide)))
  have hly_15_24 := htw (u_lay RX13 TX13 24) (jWc_wsX130 _ (u_in_lay (by decide)))
  have hlk_119 := (htw (.fieldLink RX13 119 "ProofServerModel$Kernel" "goals" "I") (jWr_59 _ (List.mem_of_getElem? (i := 20) rfl)))
  have hlk_56 := (htw (.fieldLink RX13 56 "ProofServerModel$Kernel" "vars" "[I") (jWr_14 _ (List.mem_of_getElem? (i := 23) rfl)))
  have hlk_59 := (htw (.fieldLink RX13 59 "ProofServerModel$Kernel" "varName" "[I") (jWr_15 _ (List.mem_of_getElem? (i := 0) rfl)))
  have hrg_a1 := jb_rng a1
  refine lv_iconst (v := 0) hx hb dX13_isVariable_0 (by decide) ?_
  refine lv_istore_n (lv' := [(2, .int 0), (0, .ref r0), (1, .int a1)]) hx hb dX13_isVariable_1 rfl hl (by decide) rfl (fun ls hl => ?_)
  have L2 : ∀ (N : Nat) (v2_1 : Int32) (H_1 : Heap) (locs_1 : List Loc), jSt (dC, dI) B base G0 G0 EX13_isVariable s.heap 0 0 [] [] [] H_1 locs_1 → (0 ≤ v2_1.toInt ∧ v2_1.toInt ≤ 6) → (6 - v2_1.toInt : Int) < N → ∀ ls : Array Slot, lv_has ls 3 [(0, .ref r0), (1, .int a1), (2, .int v2_1)] → W p l e R s m ([.ref r0, .int a1] : List Value).toArray below meth c H_1 locs_1 0 0 Q (F0 m 2 ls []) := by
    intro N
    induction N with
    | zero => intro v2_1 H_1 locs_1 hh_1  hi_1 hm; exact absurd hm (by omega)
    | succ N L2 =>
      intro v2_1 H_1 locs_1 hh_1  hi_1 hm_1 ls hl
      obtain ⟨hi_1_0, hi_1_1⟩ := hi_1
      refine lv_aload_n hx hb dX13_isVariable_2 rfl (lv_at hl 0 rfl) ?_
      obtain ⟨v_2, hv_2, hh_3⟩ := hh_1.pin (C := RX13) (T := TX13) (N := 50) hB15 rfl (by decide) hg_r0 (i := 21) (by decide) rfl
      clear hh_1
      obtain ⟨goals_4, rfl, hlogoals_4, hhigoals_4⟩ := hv_2
      refine j7_read hx hb hown hK (C := RX13) (T := TX13) (N := 50) rfl hly_15_21 hlk_119 (hh_3.at 0 rfl) dX13_isVariable_3 ?_
      refine lv_if_le (tgt := 37) hx hb dX13_isVariable_6 (by decide) (fun c_5 => ?_) (fun c_5 => ?_)
      · skip
        have c_5' : goals_4.toInt ≤ 0 := jb_le (rfl) ((by decide)) c_5
        refine lv_iconst (v := 0) hx hb dX13_isVariable_37 (by decide) ?_
        rw [hQ]
        exact W.zret (v := 0) hx hb hr (jb_nz (Or.inl rfl)) (fun t ht hW => ⟨⟨0, (), rfl, ⟨(Or.inl rfl), trivial⟩, hh_3.rt (M1 := []) [] rfl ht⟩, by rw [ht]; try exact hh_3.1.1, fun q h9 hq => by rw [ht]; try exact hh_3.1.2.1 q h9 hq⟩) hh_3.1.2.2 dX13_isVariable_38
      · skip
        have c_5' : goals_4.toInt > 0 := jb_le_n (rfl) ((by decide)) c_5
        refine lv_iload_n hx hb dX13_isVariable_9 rfl (lv_at hl 2 rfl) ?_
        refine lv_aload_n hx hb dX13_isVariable_10 rfl (lv_at hl 0 rfl) ?_
        obtain ⟨v_6, hv_6, hh_7⟩ := hh_3.pin (C := RX13) (T := TX13) (N := 50) hB15 rfl (by decide) hg_r0 (i := 23) (by decide) rfl
        clear hh_3
        obtain ⟨vars_8, rfl, hg_vars_8⟩ := hv_6
        refine j7_read hx hb hown hK (C := RX13) (T := TX13) (N := 50) rfl hly_15_23 hlk_56 (hh_7.at 0 rfl) dX13_isVariable_11 ?_
        refine lv_iconst (v := 0) hx hb dX13_isVariable_14 (by decide) ?_
        refine j7_iald hx hb hK hh_7 hB158 1 rfl (by decide) hg_vars_8 (x := 0) ((by decide)) (by omega) dX13_isVariable_15 (fun z_9 (hz_9 : 0 ≤ z_9.toInt ∧ z_9.toInt ≤ 6) => ?_)
        refine lv_icmp_ge (tgt := 37) hx hb dX13_isVariable_16 (by decide) (fun c_10 => ?_) (fun c_10 => ?_)
        · skip
          have c_10' : v2_1.toInt ≥ z_9.toInt := jb_ge (rfl) (rfl) c_10
          refine lv_iconst (v := 0) hx hb dX13_isVariable_37 (by decide) ?_
          rw [hQ]
          exact W.zret (v := 0) hx hb hr (jb_nz (Or.inl rfl)) (fun t ht hW => ⟨⟨0, (), rfl, ⟨(Or.inl rfl), trivial⟩, hh_7.rt (M1 := []) [] rfl ht⟩, by rw [ht]; try exact hh_7.1.1, fun q h9 hq => by rw [ht]; try exact hh_7.1.2.1 q h9 hq⟩) hh_7.1.2.2 dX13_isVariable_38
        · skip
          have c_10' : v2_1.toInt < z_9.toInt := jb_ge_n (rfl) (rfl) c_10
          refine lv_aload_n hx hb dX13_isVariable_19 rfl (lv_at hl 0 rfl) ?_
          obtain ⟨v_11, hv_11, hh_12⟩ := hh_7.pin (C := RX13) (T := TX13) (N := 50) hB15 rfl (by decide) hg_r0 (i := 24) (by decide) rfl
          clear hh_7
          obtain ⟨varName_13, rfl, hg_varName_13⟩ := hv_11
          refine j7_read hx hb hown hK (C := RX13) (T := TX13) (N := 50) rfl hly_15_24 hlk_59 (hh_12.at 0 rfl) dX13_isVariable_20 ?_
          refine lv_iload_n hx hb dX13_isVariable_23 rfl (lv_at hl 2 rfl) ?_
          refine j7_iald hx hb hK hh_12 hB163 1 rfl (by decide) hg_varName_13 (x := v2_1.toInt) (rfl) (by omega) dX13_isVariable_24 (fun z_14 (hz_14 : 0 ≤ z_14.toInt ∧ z_14.toInt ≤ 1599) => ?_)
          refine lv_iload_n hx hb dX13_isVariable_25 rfl (lv_at hl 1 rfl) ?_
          refine lv_icmp_ne (tgt := 31) hx hb dX13_isVariable_26 (by decide) (fun c_15 => ?_) (fun c_15 => ?_)
          · skip
            have c_15' : z_14.toInt ≠ a1.toInt := jb_ne (rfl) (rfl) c_15
            obtain ⟨z_16, ez_16⟩ : ∃ y : Int32, y = v2_1 + 1 := ⟨_, rfl⟩
            refine lv_iinc (v := z_16) (lv' := [(2, .int z_16), (0, .ref r0), (1, .int a1)]) hx hb dX13_isVariable_31 hl (k := 2) rfl (by rw [ez_16]; rfl) (by decide) rfl (fun ls hl => ?_)
            have hz_16 : z_16.toInt = v2_1.toInt + 1 := by rw [ez_16]; exact jb_iadd2 (rfl) (by decide) (by omega)
            refine lv_goto (tgt := 2) hx hb dX13_isVariable_34 (by decide) ?_
            exact L2 z_16 _ _ (hh_12.sub (L1 := []) [] rfl (M1 := []) [] rfl (I1 := []) [] rfl) (by first | omega | (refine ⟨?_, ?_⟩ <;> (first | omega | rfl | assumption | decide | exact Or.inl rfl | exact Or.inr rfl | (simp only; omega)))) (by omega) _ (lv_sub hl [1, 2, 0] rfl)
          · skip
            have c_15' : z_14.toInt = a1.toInt := jb_ne_n (rfl) (rfl) c_15
            refine lv_iconst (v := 1) hx hb dX13_isVariable_29 (by decide) ?_
            rw [hQ]
            exact W.zret (v := 1) hx hb hr (jb_nz (Or.inr rfl)) (fun t ht hW => ⟨⟨1, (), rfl, ⟨(Or.inr rfl), trivial⟩, hh_12.rt (M1 := []) [] rfl ht⟩, by rw [ht]; try exact hh_12.1.1, fun q h9 hq => by rw [ht]; try exact hh_12.1.2.1 q h9 hq⟩) hh_12.1.2.2 dX13_isVariable_30
  exact L2 (6 - (0 : Int32).toInt : Int).toNat.succ 0 _ _ hh (by first | omega | (refine ⟨?_, ?_⟩ <;> (first | omega | rfl | assumption | decide | exact Or.inl rfl | exact Or.inr rfl | (simp only; omega)))) (by omega) _ (lv_sub hl [1, 2, 0] rfl)
set_option maxHeartbeats 4000000 in
set_option maxRecDepth 20000 in
theorem uX13_put (l : Launch) (dC : Nat → ClassId) (dI : Nat → Nat → Nat) (ca : Nat → ClassId) (base : Nat) (B : jF) (hB : jBok B) (hAp : jAp (dC, dI)) (hB15 : ∀ n G a H, B 15 n G a H ↔ jOb (dC, dI) 15 50 (F15 n G) a H) (hB101 : ∀ n G a H, B 101 n G a H ↔ jAr (dC, dI) (ca 1) (fun j z => True) n a H) (G0 : jT) (H0 : Heap) (r0 : Nat) (a1 : Int32) : Met l yX13_put (jw yX13_put cX13_put 2 none) ({ frames := 0, cells := 0, slots := 0, locals := 0 }) (va_Pc [.ref r0, .int a1] (fun U => U.heap = H0 ∧ jX B base G0 [] H0 ∧ jG dC dI ca base U ∧ G0 r0 = some (15, 0) ∧ jP (dC, dI) G0 H0 [] ∧ True)) (va_Qv (S := Unit) (fun u => True) (fun u t => jRt (dC, dI) B base G0 EX13_put H0 [] t.heap) (jA base)) 0 0 (jA base) := by
  refine Met.ofW (cc := cX13_put) (maxL := 2) (ret := none) (by decide) rfl ?_
  intro p e s m args below meth c s₁ Bd hml hv
  obtain ⟨rfl, hH0, hX, hG, hg_r0, hP0, hp0⟩ := hv
  have hK := hG.1
  have hx := Bd.exec
  have hb := Bd.bytes
  have hr := Bd.returns
  have hts := atoms_spec (ws := (jw yX13_put cX13_put 2 none)) Bd.pre
  have htw : ∀ w ∈ jWl, w.before _ s = true := fun w h => hts w (List.mem_cons_of_mem _ h)
  have hown : s.vm.findClass RX13 = some m.cls := findClass_of_methodNamed Bd.named
  have hlocks := Bd.notSynchronized
  obtain ⟨Q, hQ⟩ : ∃ Q, Q = MQ below (va_Qv (S := Unit) (fun u => True) (fun u t => jRt (dC, dI) B base G0 EX13_put H0 [] t.heap) (jA base)) ([.ref r0, .int a1] : List Value).toArray s 0 0 (jA base) := ⟨_, rfl⟩
  rw [← hQ]
  have hl := lv_entry ([.ref r0, .int a1]) (n := 2) (Nat.le_of_ble_eq_true rfl)
  rw [lg_entry_eq]
  generalize (lg_sl ([.ref r0, .int a1]) ++ List.replicate (2 - (lg_sl ([.ref r0, .int a1])).length) Slot.unset).toArray = ls at hl ⊢
  have hl : lv_has ls 2 [(0, .ref r0), (1, .int a1)] := hl
  generalize hR : (headSpec (jw yX13_put cX13_put 2 none) ({ frames := 0, cells := 0, slots := 0, locals := 0 })).room = R
  subst hH0
  have hh : jSt (dC, dI) B base G0 G0 EX13_put s.heap 0 0 [] [] [] s.heap [] := jSt.start hX hP0 jMc.nil jIs.nil
  clear hX hP0
  have hk0 : (0 : Int32).toInt = 0 := by decide
  have hk1 : (1 : Int32).toInt = 1 := by decide
  have hk100000 : (100000 : Int32).toInt = 100000 := by decide
  have hly_15_45 := htw (u_lay RX13 TX13 45) (jWc_wsX130 _ (u_in_lay (by decide)))
  have hly_15_46 := htw (u_lay RX13 TX13 46) (jWc_wsX130 _ (u_in_lay (by decide)))
  have hlk_375 := (htw (.fieldLink RX13 375 "ProofServerModel$Kernel" "lines" "I") (jWr_70 _ (List.mem_of_getElem? (i := 10) rfl)))
  have hcs_89 := htw (.constant RX13 89 100000) (jWr_15 _ (List.mem_of_getElem? (i := 10) rfl))
  have hlk_90 := (htw (.fieldLink RX13 90 "ProofServerModel$Kernel" "line" "[I") (jWr_15 _ (List.mem_of_getElem? (i := 11) rfl)))
  have hrg_a1 := jb_rng a1
  refine lv_aload_n hx hb dX13_put_0 rfl (lv_at hl 0 rfl) ?_
  obtain ⟨v_1, hv_1, hh_2⟩ := hh.pin (C := RX13) (T := TX13) (N := 50) hB15 rfl (by decide) hg_r0 (i := 46) (by decide) rfl
  clear hh
  obtain ⟨lines_3, rfl, hlolines_3, hhilines_3⟩ := hv_1
  refine j7_read hx hb hown hK (C := RX13) (T := TX13) (N := 50) rfl hly_15_46 hlk_375 (hh_2.at 0 rfl) dX13_put_1 ?_
  refine lv_ldc hx hb hown hcs_89 dX13_put_4 ?_
  refine lv_icmp_ne (tgt := 10) hx hb dX13_put_6 (by decide) (fun c_4 => ?_) (fun c_4 => ?_)
  · skip
    have c_4' : lines_3.toInt ≠ 100000 := jb_ne (rfl) ((by decide)) c_4
    refine lv_aload_n hx hb dX13_put_10 rfl (lv_at hl 0 rfl) ?_
    obtain ⟨v_5, hv_5, hh_6⟩ := hh_2.pin (C := RX13) (T := TX13) (N := 50) hB15 rfl (by decide) hg_r0 (i := 45) (by decide) rfl
    clear hh_2
    obtain ⟨line_7, rfl, hg_line_7⟩ := hv_5
    refine j7_read hx hb hown hK (C := RX13) (T := TX13) (N := 50) rfl hly_15_45 hlk_90 (hh_6.at 0 rfl) dX13_put_11 ?_
    refine lv_aload_n hx hb dX13_put_14 rfl (lv_at hl 0 rfl) ?_
    refine j7_read hx hb hown hK (C := RX13) (T := TX13) (N := 50) rfl hly_15_46 hlk_375 (hh_6.at 1 rfl) dX13_put_15 ?_
    refine lv_iload_n hx hb dX13_put_18 rfl (lv_at hl 1 rfl) ?_
    refine j7_iast hx hb hK hh_6 hB hB101 1 rfl (by decide) (by decide) rfl rfl rfl hg_line_7 (x := lines_3.toInt) (rfl) (by omega) (trivial) dX13_put_19 (fun H_8 locs_8 hh_8 => ?_)
    clear hh_6
    refine lv_aload_n hx hb dX13_put_20 rfl (lv_at hl 0 rfl) ?_
    refine lv_dup hx hb dX13_put_21 rfl ?_
    refine j7_read hx hb hown hK (C := RX13) (T := TX13) (N := 50) rfl hly_15_46 hlk_375 (hh_8.at 1 rfl) dX13_put_22 ?_
    refine lv_iconst (v := 1) hx hb dX13_put_25 (by decide) ?_
    refine lv_iadd hx hb dX13_put_26 ?_
    refine lv_topi (fun z_9 ez_9 => ?_)
    have hz_9 : z_9.toInt = lines_3.toInt + 1 := by rw [ez_9]; exact jb_iadd2 (rfl) ((by decide)) (by omega)
    refine j7_put hx hb hown hK hh_8 hB hAp hB15 (C := RX13) (T := TX13) (N := 50) rfl (by decide) hg_r0 (i := 46) (by decide) hly_15_46 rfl hlk_375 rfl (ty := .int) (v := .int z_9) (by decide +kernel) rfl rfl (⟨_, rfl, by omega, by omega⟩) rfl (L1 := [(r0, 15, 45, .ref line_7)]) [0] rfl rfl rfl dX13_put_27 (fun H_10 locs_10 hh_10 => ?_)
    clear hh_8
    rw [hQ]
    exact W.vret hx hb hr (fun t ht hW => ⟨⟨(), rfl, trivial, hh_10.rt (M1 := []) [] rfl ht⟩, by rw [ht]; try exact hh_10.1.1, fun q h9 hq => by rw [ht]; try exact hh_10.1.2.1 q h9 hq⟩) hh_10.1.2.2 dX13_put_30
  · skip
    have c_4' : lines_3.toInt = 100000 := jb_ne_n (rfl) ((by decide)) c_4
    rw [hQ]
    exact W.vret hx hb hr (fun t ht hW => ⟨⟨(), rfl, trivial, hh_2.rt (M1 := []) [] rfl ht⟩, by rw [ht]; try exact hh_2.1.1, fun q h9 hq => by rw [ht]; try exact hh_2.1.2.1 q h9 hq⟩) hh_2.1.2.2 dX13_put_9
set_option maxHeartbeats 4000000 in
set_option maxRecDepth 20000 in
theorem uX13_words (l : Launch) (dC : Nat → ClassId) (dI : Nat → Nat → Nat) (ca : Nat → ClassId) (base : Nat) (B : jF) (hB : jBok B) (hAp : jAp (dC, dI)) (hB15 : ∀ n G a H, B 15 n G a H ↔ jOb (dC, dI) 15 50 (F15 n G) a H) (hB101 : ∀ n G a H, B 101 n G a H ↔ jAr (dC, dI) (ca 1) (fun j z => True) n a H) (G0 : jT) (H0 : Heap) (r0 : Nat) (r1 : Nat) (n1 : Nat) : Met l yX13_words (jw yX13_words cX13_words 3 none) ({ frames := 4, cells := 0, slots := 0, locals := 141 }) (va_Pc [.ref r0, .ref r1] (fun U => U.heap = H0 ∧ jX B base G0 [] H0 ∧ jG dC dI ca base U ∧ jStr base r1 n1 U H0 ∧ G0 r0 = some (15, 0) ∧ jP (dC, dI) G0 H0 [] ∧ n1 < 2147483648)) (va_Qv (S := Unit) (fun u => True) (fun u t => jRt (dC, dI) B base G0 EX13_words H0 [] t.heap) (jA base)) 0 0 (jA base) := by
  refine Met.ofW (cc := cX13_words) (maxL := 3) (ret := none) (by decide) rfl ?_
  intro p e s m args below meth c s₁ Bd hml hv
  obtain ⟨rfl, hH0, hX, hG, hstr_r1, hg_r0, hP0, hp0⟩ := hv
  have hK := hG.1
  have hx := Bd.exec
  have hb := Bd.bytes
  have hr := Bd.returns
  have hts := atoms_spec (ws := (jw yX13_words cX13_words 3 none)) Bd.pre
  have htw : ∀ w ∈ jWl, w.before _ s = true := fun w h => hts w (List.mem_cons_of_mem _ h)
  have hown : s.vm.findClass RX13 = some m.cls := findClass_of_methodNamed Bd.named
  have hlocks := Bd.notSynchronized
  obtain ⟨Q, hQ⟩ : ∃ Q, Q = MQ below (va_Qv (S := Unit) (fun u => True) (fun u t => jRt (dC, dI) B base G0 EX13_words H0 [] t.heap) (jA base)) ([.ref r0, .ref r1] : List Value).toArray s 0 0 (jA base) := ⟨_, rfl⟩
  rw [← hQ]
  have hl := lv_entry ([.ref r0, .ref r1]) (n := 3) (Nat.le_of_ble_eq_true rfl)
  rw [lg_entry_eq]
  generalize (lg_sl ([.ref r0, .ref r1]) ++ List.replicate (3 - (lg_sl ([.ref r0, .ref r1])).length) Slot.unset).toArray = ls at hl ⊢
  have hl : lv_has ls 3 [(0, .ref r0), (1, .ref r1)] := hl
  generalize hR : (headSpec (jw yX13_words cX13_words 3 none) ({ frames := 4, cells := 0, slots := 0, locals := 141 })).room = R
  subst hH0
  have hh : jSt (dC, dI) B base G0 G0 EX13_words s.heap 0 0 [] [] [] s.heap [] := jSt.start hX hP0 jMc.nil jIs.nil
  clear hX hP0
  have hk0 : (0 : Int32).toInt = 0 := by decide
  have hk1 : (1 : Int32).toInt = 1 := by decide
  refine lv_iconst (v := 0) hx hb dX13_words_0 (by decide) ?_
  refine lv_istore_n (lv' := [(2, .int 0), (0, .ref r0), (1, .ref r1)]) hx hb dX13_words_1 rfl hl (by decide) rfl (fun ls hl => ?_)
  have L2 : ∀ (N : Nat) (v2_1 : Int32) (H_1 : Heap) (locs_1 : List Loc), jSt (dC, dI) B base G0 G0 EX13_words s.heap 0 0 [] [] [] H_1 locs_1 → (0 ≤ v2_1.toInt ∧ v2_1.toInt ≤ n1) → (n1 - v2_1.toInt : Int) < N → ∀ ls : Array Slot, lv_has ls 3 [(0, .ref r0), (1, .ref r1), (2, .int v2_1)] → W p l e R s m ([.ref r0, .ref r1] : List Value).toArray below meth c H_1 locs_1 0 0 Q (F0 m 2 ls []) := by
    intro N
    induction N with
    | zero => intro v2_1 H_1 locs_1 hh_1  hi_1 hm; exact absurd hm (by omega)
    | succ N L2 =>
      intro v2_1 H_1 locs_1 hh_1  hi_1 hm_1 ls hl
      obtain ⟨hi_1_0, hi_1_1⟩ := hi_1
      refine lv_iload_n hx hb dX13_words_2 rfl (lv_at hl 2 rfl) ?_
      refine lv_aload_n hx hb dX13_words_3 rfl (lv_at hl 1 rfl) ?_
      refine vp_callSi (W.runV (As := []) (rest := [.int v2_1]) ⟨hx, hb, hml, hown, hts⟩ (wJ0_length_8abf5 l dC dI ca base H_1 r1 n1) (cwV 0 hts (jgV (jWr_61 _ (List.mem_of_getElem? (i := 4) rfl)) (jWr_5 _ (List.mem_of_getElem? (i := 13) rfl)) (jWr_5 _ (List.mem_of_getElem? (i := 14) rfl)) (jWr_5 _ (List.mem_of_getElem? (i := 15) rfl)) (jWr_5 _ (List.mem_of_getElem? (i := 16) rfl))) rfl rfl rfl (by decide +kernel) ⟨by rw [← hR]; exact Nat.le_of_ble_eq_true rfl, by rw [← hR]; exact Nat.le_of_ble_eq_true rfl⟩) ⟨fun a U g mk q => by obtain ⟨q0, q1, q2, qK, q9⟩ := q; exact ⟨q0, q1, (q2.moved (Vm.Alike.refl U.vm)), jG.calling g mk a qK, q9⟩, jStr_recv hstr_r1 hh_1.1, fun U hU hW => ⟨rfl, hU, (hstr_r1.moved hW.alike).kept hh_1.1.2.1, hG.step hW hU hh_1.1, by omega⟩⟩ rfl rfl hl.1 rfl (lv_room (Nat.le_of_ble_eq_true rfl)) dX13_words_4 ⟨Nat.zero_le _, Nat.zero_le _⟩) (fun r_2 hr_2 => ?_)
      refine lv_icmp_ge (tgt := 25) hx hb dX13_words_7 (by decide) (fun c_3 => ?_) (fun c_3 => ?_)
      · skip
        have c_3' : v2_1.toInt ≥ r_2.toInt := jb_ge (rfl) (rfl) c_3
        rw [hQ]
        exact W.vret hx hb hr (fun t ht hW => ⟨⟨(), rfl, trivial, hh_1.rt (M1 := []) [] rfl ht⟩, by rw [ht]; try exact hh_1.1.1, fun q h9 hq => by rw [ht]; try exact hh_1.1.2.1 q h9 hq⟩) hh_1.1.2.2 dX13_words_25
      · skip
        have c_3' : v2_1.toInt < r_2.toInt := jb_ge_n (rfl) (rfl) c_3
        refine lv_aload_n hx hb dX13_words_10 rfl (lv_at hl 0 rfl) ?_
        refine lv_aload_n hx hb dX13_words_11 rfl (lv_at hl 1 rfl) ?_
        refine lv_iload_n hx hb dX13_words_12 rfl (lv_at hl 2 rfl) ?_
        refine vp_callSi (W.runV (As := [.int v2_1]) (rest := [.ref r0]) ⟨hx, hb, hml, hown, hts⟩ (wJ0_charAt_5068e l dC dI ca base H_1 r1 n1 v2_1) (cwV 1 hts (jgV (jWr_61 _ (List.mem_of_getElem? (i := 6) rfl)) (jWr_6 _ (List.mem_of_getElem? (i := 1) rfl)) (jWr_6 _ (List.mem_of_getElem? (i := 2) rfl)) (jWr_5 _ (List.mem_of_getElem? (i := 15) rfl)) (jWr_6 _ (List.mem_of_getElem? (i := 3) rfl))) rfl rfl rfl (by decide +kernel) ⟨by rw [← hR]; exact Nat.le_of_ble_eq_true rfl, by rw [← hR]; exact Nat.le_of_ble_eq_true rfl⟩) ⟨fun a U g mk q => by obtain ⟨q0, q1, q2, qK, q9⟩ := q; exact ⟨q0, q1, (q2.moved (Vm.Alike.refl U.vm)), jG.calling g mk a qK, q9⟩, jStr_recv hstr_r1 hh_1.1, fun U hU hW => ⟨rfl, hU, (hstr_r1.moved hW.alike).kept hh_1.1.2.1, hG.step hW hU hh_1.1, ⟨by omega, by omega, by omega⟩⟩⟩ rfl rfl hl.1 rfl (lv_room (Nat.le_of_ble_eq_true rfl)) dX13_words_13 ⟨Nat.zero_le _, Nat.zero_le _⟩) (fun r_4 hr_4 => ?_)
        refine va_callv (A0 := jA base) (H0 := s.heap) (va_runV (As := [.int r_4]) (rest := []) ⟨hx, hb, hml, hown, hts⟩ (uX13_put l dC dI ca base B hB hAp hB15 hB101 G0 H_1 r0 r_4) (cwV 1 hts (jgV (jWr_70 _ (List.mem_of_getElem? (i := 6) rfl)) (jWr_70 _ (List.mem_of_getElem? (i := 7) rfl)) (jWr_70 _ (List.mem_of_getElem? (i := 8) rfl)) (jWr_12 _ (List.mem_of_getElem? (i := 12) rfl)) (jWr_70 _ (List.mem_of_getElem? (i := 9) rfl))) rfl rfl rfl (by decide +kernel) ⟨by rw [← hR]; exact Nat.le_of_ble_eq_true rfl, by rw [← hR]; exact Nat.le_of_ble_eq_true rfl⟩) ⟨fun a U g mk q => by obtain ⟨q0, q1, q2, qK, q10, q11, q12⟩ := q; exact ⟨q0, q1, q2, jG.calling g mk a qK, q10, q11, q12⟩, hh_1.recv (C := RX13) (T := TX13) (N := 50) hB15 rfl (by decide) hg_r0 hK, fun U hU hW => ⟨rfl, hU, hh_1.2.1, hG.step hW hU hh_1.1, hg_r0, jP.nil, trivial⟩⟩ rfl rfl hl.1 rfl (lv_room (Nat.le_of_ble_eq_true rfl)) dX13_words_16 ⟨Nat.zero_le _, Nat.zero_le _⟩) hh_1.1 (fun q _ h => h) (fun q h => h) (fun u_5 t_5 H_5 locs_5 ht_5 hvm_5 hr_6 hb_5 hz_5 hk_5 hS_5 => ?_)
        rw [ht_5] at hb_5
        obtain ⟨hb_51, hb_52, hb_53, hb_54, hb_55⟩ := hb_5
        have hh_5 : jSt (dC, dI) B base G0 G0 EX13_words s.heap 0 0 [] [] [] H_5 locs_5 := ((hh_1.call hb_51 hb_52 hb_53 hb_54 hS_5 rfl (L1 := []) [] rfl rfl (M1 := []) [] rfl rfl (I1 := []) [] rfl rfl).more hb_55)
        clear hh_1 ht_5 hvm_5 hz_5 hk_5 hS_5 hb_51 hb_52 hb_53 hb_54 hb_55
        obtain ⟨z_7, ez_7⟩ : ∃ y : Int32, y = v2_1 + 1 := ⟨_, rfl⟩
        refine lv_iinc (v := z_7) (lv' := [(2, .int z_7), (0, .ref r0), (1, .ref r1)]) hx hb dX13_words_19 hl (k := 2) rfl (by rw [ez_7]; rfl) (by decide) rfl (fun ls hl => ?_)
        have hz_7 : z_7.toInt = v2_1.toInt + 1 := by rw [ez_7]; exact jb_iadd2 (rfl) (by decide) (by omega)
        refine lv_goto (tgt := 2) hx hb dX13_words_22 (by decide) ?_
        exact L2 z_7 _ _ hh_5 (by first | omega | (refine ⟨?_, ?_⟩ <;> (first | omega | rfl | assumption | decide | exact Or.inl rfl | exact Or.inr rfl | (simp only; omega)))) (by omega) _ (lv_sub hl [1, 2, 0] rfl)
  exact L2 (n1 - (0 : Int32).toInt : Int).toNat.succ 0 _ _ hh (by first | omega | (refine ⟨?_, ?_⟩ <;> (first | omega | rfl | assumption | decide | exact Or.inl rfl | exact Or.inr rfl | (simp only; omega)))) (by omega) _ (lv_sub hl [1, 2, 0] rfl)
set_option maxHeartbeats 4000000 in
set_option maxRecDepth 20000 in
theorem uX13_putName (l : Launch) (dC : Nat → ClassId) (dI : Nat → Nat → Nat) (ca : Nat → ClassId) (base : Nat) (B : jF) (hB : jBok B) (hAp : jAp (dC, dI)) (hB15 : ∀ n G a H, B 15 n G a H ↔ jOb (dC, dI) 15 50 (F15 n G) a H) (hB101 : ∀ n G a H, B 101 n G a H ↔ jAr (dC, dI) (ca 1) (fun j z => True) n a H) (hB155 : ∀ n G a H, B 155 n G a H ↔ jAr (dC, dI) (ca 1) (fun j z => 0 ≤ z.toInt ∧ z.toInt ≤ 11990) n a H) (hB156 : ∀ n G a H, B 156 n G a H ↔ jAr (dC, dI) (ca 1) (fun j z => 0 ≤ z.toInt ∧ z.toInt ≤ 10) n a H) (hB166 : ∀ n G a H, B 166 n G a H ↔ jAr (dC, dI) (ca 1) (fun j z => True) n a H) (G0 : jT) (H0 : Heap) (r0 : Nat) (a1 : Int32) : Met l yX13_putName (jw yX13_putName cX13_putName 3 none) ({ frames := 1, cells := 0, slots := 0, locals := 21 }) (va_Pc [.ref r0, .int a1] (fun U => U.heap = H0 ∧ jX B base G0 [] H0 ∧ jG dC dI ca base U ∧ G0 r0 = some (15, 0) ∧ jP (dC, dI) G0 H0 [] ∧ 0 ≤ a1.toInt ∧ a1.toInt ≤ 1599)) (va_Qv (S := Unit) (fun u => True) (fun u t => jRt (dC, dI) B base G0 EX13_putName H0 [] t.heap) (jA base)) 0 0 (jA base) := by
  refine Met.ofW (cc := cX13_putName) (maxL := 3) (ret := none) (by decide) rfl ?_
  intro p e s m args below meth c s₁ Bd hml hv
  obtain ⟨rfl, hH0, hX, hG, hg_r0, hP0, hp0, hp1⟩ := hv
  have hK := hG.1
  have hx := Bd.exec
  have hb := Bd.bytes
  have hr := Bd.returns
  have hts := atoms_spec (ws := (jw yX13_putName cX13_putName 3 none)) Bd.pre
  have htw : ∀ w ∈ jWl, w.before _ s = true := fun w h => hts w (List.mem_cons_of_mem _ h)
  have hown : s.vm.findClass RX13 = some m.cls := findClass_of_methodNamed Bd.named
  have hlocks := Bd.notSynchronized
  obtain ⟨Q, hQ⟩ : ∃ Q, Q = MQ below (va_Qv (S := Unit) (fun u => True) (fun u t => jRt (dC, dI) B base G0 EX13_putName H0 [] t.heap) (jA base)) ([.ref r0, .int a1] : List Value).toArray s 0 0 (jA base) := ⟨_, rfl⟩
  rw [← hQ]
  have hl := lv_entry ([.ref r0, .int a1]) (n := 3) (Nat.le_of_ble_eq_true rfl)
  rw [lg_entry_eq]
  generalize (lg_sl ([.ref r0, .int a1]) ++ List.replicate (3 - (lg_sl ([.ref r0, .int a1])).length) Slot.unset).toArray = ls at hl ⊢
  have hl : lv_has ls 3 [(0, .ref r0), (1, .int a1)] := hl
  generalize hR : (headSpec (jw yX13_putName cX13_putName 3 none) ({ frames := 1, cells := 0, slots := 0, locals := 21 })).room = R
  subst hH0
  have hh : jSt (dC, dI) B base G0 G0 EX13_putName s.heap 0 0 [] [] [] s.heap [] := jSt.start hX hP0 jMc.nil jIs.nil
  clear hX hP0
  have hk0 : (0 : Int32).toInt = 0 := by decide
  have hk1 : (1 : Int32).toInt = 1 := by decide
  have hly_15_6 := htw (u_lay RX13 TX13 6) (jWc_wsX130 _ (u_in_lay (by decide)))
  have hly_15_8 := htw (u_lay RX13 TX13 8) (jWc_wsX130 _ (u_in_lay (by decide)))
  have hly_15_9 := htw (u_lay RX13 TX13 9) (jWc_wsX130 _ (u_in_lay (by decide)))
  have hlk_34 := (htw (.fieldLink RX13 34 "ProofServerModel$Kernel" "nameLength" "[I") (jWr_14 _ (List.mem_of_getElem? (i := 16) rfl)))
  have hlk_28 := (htw (.fieldLink RX13 28 "ProofServerModel$Kernel" "signs" "[I") (jWr_14 _ (List.mem_of_getElem? (i := 14) rfl)))
  have hlk_31 := (htw (.fieldLink RX13 31 "ProofServerModel$Kernel" "nameAt" "[I") (jWr_14 _ (List.mem_of_getElem? (i := 15) rfl)))
  have hrg_a1 := jb_rng a1
  refine lv_iconst (v := 0) hx hb dX13_putName_0 (by decide) ?_
  refine lv_istore_n (lv' := [(2, .int 0), (0, .ref r0), (1, .int a1)]) hx hb dX13_putName_1 rfl hl (by decide) rfl (fun ls hl => ?_)
  have L2 : ∀ (N : Nat) (v2_1 : Int32) (H_1 : Heap) (locs_1 : List Loc), jSt (dC, dI) B base G0 G0 EX13_putName s.heap 0 0 [] [] [] H_1 locs_1 → (0 ≤ v2_1.toInt ∧ v2_1.toInt ≤ 10) → (10 - v2_1.toInt : Int) < N → ∀ ls : Array Slot, lv_has ls 3 [(0, .ref r0), (1, .int a1), (2, .int v2_1)] → W p l e R s m ([.ref r0, .int a1] : List Value).toArray below meth c H_1 locs_1 0 0 Q (F0 m 2 ls []) := by
    intro N
    induction N with
    | zero => intro v2_1 H_1 locs_1 hh_1  hi_1 hm; exact absurd hm (by omega)
    | succ N L2 =>
      intro v2_1 H_1 locs_1 hh_1  hi_1 hm_1 ls hl
      obtain ⟨hi_1_0, hi_1_1⟩ := hi_1
      refine lv_iload_n hx hb dX13_putName_2 rfl (lv_at hl 2 rfl) ?_
      refine lv_aload_n hx hb dX13_putName_3 rfl (lv_at hl 0 rfl) ?_
      obtain ⟨v_2, hv_2, hh_3⟩ := hh_1.pin (C := RX13) (T := TX13) (N := 50) hB15 rfl (by decide) hg_r0 (i := 9) (by decide) rfl
      clear hh_1
      obtain ⟨nameLength_4, rfl, hg_nameLength_4⟩ := hv_2
      refine j7_read hx hb hown hK (C := RX13) (T := TX13) (N := 50) rfl hly_15_9 hlk_34 (hh_3.at 0 rfl) dX13_putName_4 ?_
      refine lv_iload_n hx hb dX13_putName_7 rfl (lv_at hl 1 rfl) ?_
      refine j7_iald hx hb hK hh_3 hB156 1 rfl (by decide) hg_nameLength_4 (x := a1.toInt) (rfl) (by omega) dX13_putName_8 (fun z_5 (hz_5 : 0 ≤ z_5.toInt ∧ z_5.toInt ≤ 10) => ?_)
      refine lv_icmp_ge (tgt := 35) hx hb dX13_putName_9 (by decide) (fun c_6 => ?_) (fun c_6 => ?_)
      · skip
        have c_6' : v2_1.toInt ≥ z_5.toInt := jb_ge (rfl) (rfl) c_6
        rw [hQ]
        exact W.vret hx hb hr (fun t ht hW => ⟨⟨(), rfl, trivial, hh_3.rt (M1 := []) [] rfl ht⟩, by rw [ht]; try exact hh_3.1.1, fun q h9 hq => by rw [ht]; try exact hh_3.1.2.1 q h9 hq⟩) hh_3.1.2.2 dX13_putName_35
      · skip
        have c_6' : v2_1.toInt < z_5.toInt := jb_ge_n (rfl) (rfl) c_6
        refine lv_aload_n hx hb dX13_putName_12 rfl (lv_at hl 0 rfl) ?_
        refine lv_aload_n hx hb dX13_putName_13 rfl (lv_at hl 0 rfl) ?_
        obtain ⟨v_7, hv_7, hh_8⟩ := hh_3.pin (C := RX13) (T := TX13) (N := 50) hB15 rfl (by decide) hg_r0 (i := 6) (by decide) rfl
        clear hh_3
        obtain ⟨signs_9, rfl, hg_signs_9⟩ := hv_7
        refine j7_read hx hb hown hK (C := RX13) (T := TX13) (N := 50) rfl hly_15_6 hlk_28 (hh_8.at 0 rfl) dX13_putName_14 ?_
        refine lv_aload_n hx hb dX13_putName_17 rfl (lv_at hl 0 rfl) ?_
        obtain ⟨v_10, hv_10, hh_11⟩ := hh_8.pin (C := RX13) (T := TX13) (N := 50) hB15 rfl (by decide) hg_r0 (i := 8) (by decide) rfl
        clear hh_8
        obtain ⟨nameAt_12, rfl, hg_nameAt_12⟩ := hv_10
        refine j7_read hx hb hown hK (C := RX13) (T := TX13) (N := 50) rfl hly_15_8 hlk_31 (hh_11.at 0 rfl) dX13_putName_18 ?_
        refine lv_iload_n hx hb dX13_putName_21 rfl (lv_at hl 1 rfl) ?_
        refine j7_iald hx hb hK hh_11 hB155 1 rfl (by decide) hg_nameAt_12 (x := a1.toInt) (rfl) (by omega) dX13_putName_22 (fun z_13 (hz_13 : 0 ≤ z_13.toInt ∧ z_13.toInt ≤ 11990) => ?_)
        refine lv_iload_n hx hb dX13_putName_23 rfl (lv_at hl 2 rfl) ?_
        refine lv_iadd hx hb dX13_putName_24 ?_
        refine lv_topi (fun z_14 ez_14 => ?_)
        have hz_14 : z_14.toInt = z_13.toInt + v2_1.toInt := by rw [ez_14]; exact jb_iadd2 (rfl) (rfl) (by omega)
        refine j7_iald hx hb hK hh_11 hB166 1 rfl (by decide) hg_signs_9 (x := z_14.toInt) (rfl) (by omega) dX13_putName_25 (fun z_15 (hz_15 : True) => ?_)
        refine va_callv (A0 := jA base) (H0 := s.heap) (va_runV (As := [.int z_15]) (rest := []) ⟨hx, hb, hml, hown, hts⟩ (uX13_put l dC dI ca base B hB hAp hB15 hB101 G0 H_1 r0 z_15) (cwV 1 hts (jgV (jWr_70 _ (List.mem_of_getElem? (i := 6) rfl)) (jWr_70 _ (List.mem_of_getElem? (i := 7) rfl)) (jWr_70 _ (List.mem_of_getElem? (i := 8) rfl)) (jWr_12 _ (List.mem_of_getElem? (i := 12) rfl)) (jWr_70 _ (List.mem_of_getElem? (i := 9) rfl))) rfl rfl rfl (by decide +kernel) ⟨by rw [← hR]; exact Nat.le_of_ble_eq_true rfl, by rw [← hR]; exact Nat.le_of_ble_eq_true rfl⟩) ⟨fun a U g mk q => by obtain ⟨q0, q1, q2, qK, q10, q11, q12⟩ := q; exact ⟨q0, q1, q2, jG.calling g mk a qK, q10, q11, q12⟩, hh_11.recv (C := RX13) (T := TX13) (N := 50) hB15 rfl (by decide) hg_r0 hK, fun U hU hW => ⟨rfl, hU, hh_11.2.1, hG.step hW hU hh_11.1, hg_r0, jP.nil, trivial⟩⟩ rfl rfl hl.1 rfl (lv_room (Nat.le_of_ble_eq_true rfl)) dX13_putName_26 ⟨Nat.zero_le _, Nat.zero_le _⟩) hh_11.1 (fun q _ h => h) (fun q h => h) (fun u_16 t_16 H_16 locs_16 ht_16 hvm_16 hr_17 hb_16 hz_16 hk_16 hS_16 => ?_)
        rw [ht_16] at hb_16
        obtain ⟨hb_161, hb_162, hb_163, hb_164, hb_165⟩ := hb_16
        have hh_16 : jSt (dC, dI) B base G0 G0 EX13_putName s.heap 0 0 [(r0, 15, 8, .ref nameAt_12), (r0, 15, 6, .ref signs_9), (r0, 15, 9, .ref nameLength_4)] [] [] H_16 locs_16 := ((hh_11.call hb_161 hb_162 hb_163 hb_164 hS_16 rfl (L1 := [(r0, 15, 8, .ref nameAt_12), (r0, 15, 6, .ref signs_9), (r0, 15, 9, .ref nameLength_4)]) [0, 1, 2] rfl rfl (M1 := []) [] rfl rfl (I1 := []) [] rfl rfl).more hb_165)
        clear hh_11 ht_16 hvm_16 hz_16 hk_16 hS_16 hb_161 hb_162 hb_163 hb_164 hb_165
        obtain ⟨z_18, ez_18⟩ : ∃ y : Int32, y = v2_1 + 1 := ⟨_, rfl⟩
        refine lv_iinc (v := z_18) (lv' := [(2, .int z_18), (0, .ref r0), (1, .int a1)]) hx hb dX13_putName_29 hl (k := 2) rfl (by rw [ez_18]; rfl) (by decide) rfl (fun ls hl => ?_)
        have hz_18 : z_18.toInt = v2_1.toInt + 1 := by rw [ez_18]; exact jb_iadd2 (rfl) (by decide) (by omega)
        refine lv_goto (tgt := 2) hx hb dX13_putName_32 (by decide) ?_
        exact L2 z_18 _ _ (hh_16.sub (L1 := []) [] rfl (M1 := []) [] rfl (I1 := []) [] rfl) (by first | omega | (refine ⟨?_, ?_⟩ <;> (first | omega | rfl | assumption | decide | exact Or.inl rfl | exact Or.inr rfl | (simp only; omega)))) (by omega) _ (lv_sub hl [1, 2, 0] rfl)
  exact L2 (10 - (0 : Int32).toInt : Int).toNat.succ 0 _ _ hh (by first | omega | (refine ⟨?_, ?_⟩ <;> (first | omega | rfl | assumption | decide | exact Or.inl rfl | exact Or.inr rfl | (simp only; omega)))) (by omega) _ (lv_sub hl [1, 2, 0] rfl)
set_option maxHeartbeats 4000000 in
set_option maxRecDepth 20000 in
theorem uX13_putBound (l : Launch) (dC : Nat → ClassId) (dI : Nat → Nat → Nat) (ca : Nat → ClassId) (base : Nat) (B : jF) (hB : jBok B) (hAp : jAp (dC, dI)) (hB15 : ∀ n G a H, B 15 n G a H ↔ jOb (dC, dI) 15 50 (F15 n G) a H) (hB101 : ∀ n G a H, B 101 n G a H ↔ jAr (dC, dI) (ca 1) (fun j z => True) n a H) (hB155 : ∀ n G a H, B 155 n G a H ↔ jAr (dC, dI) (ca 1) (fun j z => 0 ≤ z.toInt ∧ z.toInt ≤ 11990) n a H) (hB156 : ∀ n G a H, B 156 n G a H ↔ jAr (dC, dI) (ca 1) (fun j z => 0 ≤ z.toInt ∧ z.toInt ≤ 10) n a H) (hB163 : ∀ n G a H, B 163 n G a H ↔ jAr (dC, dI) (ca 1) (fun j z => 0 ≤ z.toInt ∧ z.toInt ≤ 1599) n a H) (hB164 : ∀ n G a H, B 164 n G a H ↔ jAr (dC, dI) (ca 1) (fun j z => 0 ≤ z.toInt ∧ z.toInt ≤ 100000) n a H) (hB166 : ∀ n G a H, B 166 n G a H ↔ jAr (dC, dI) (ca 1) (fun j z => True) n a H) (G0 : jT) (H0 : Heap) (r0 : Nat) (a1 : Int32) : Met l yX13_putBound (jw yX13_putBound cX13_putBound 3 none) ({ frames := 2, cells := 0, slots := 0, locals := 43 }) (va_Pc [.ref r0, .int a1] (fun U => U.heap = H0 ∧ jX B base G0 [] H0 ∧ jG dC dI ca base U ∧ G0 r0 = some (15, 0) ∧ jP (dC, dI) G0 H0 [] ∧ 0 ≤ a1.toInt ∧ a1.toInt ≤ 99)) (va_Qv (S := Unit) (fun u => True) (fun u t => jRt (dC, dI) B base G0 EX13_putBound H0 [] t.heap) (jA base)) 0 0 (jA base) := by
  refine Met.ofW (cc := cX13_putBound) (maxL := 3) (ret := none) (by decide) rfl ?_
  intro p e s m args below meth c s₁ Bd hml hv
  obtain ⟨rfl, hH0, hX, hG, hg_r0, hP0, hp0, hp1⟩ := hv
  have hK := hG.1
  have hx := Bd.exec
  have hb := Bd.bytes
  have hr := Bd.returns
  have hts := atoms_spec (ws := (jw yX13_putBound cX13_putBound 3 none)) Bd.pre
  have htw : ∀ w ∈ jWl, w.before _ s = true := fun w h => hts w (List.mem_cons_of_mem _ h)
  have hown : s.vm.findClass RX13 = some m.cls := findClass_of_methodNamed Bd.named
  have hlocks := Bd.notSynchronized
  obtain ⟨Q, hQ⟩ : ∃ Q, Q = MQ below (va_Qv (S := Unit) (fun u => True) (fun u t => jRt (dC, dI) B base G0 EX13_putBound H0 [] t.heap) (jA base)) ([.ref r0, .int a1] : List Value).toArray s 0 0 (jA base) := ⟨_, rfl⟩
  rw [← hQ]
  have hl := lv_entry ([.ref r0, .int a1]) (n := 3) (Nat.le_of_ble_eq_true rfl)
  rw [lg_entry_eq]
  generalize (lg_sl ([.ref r0, .int a1]) ++ List.replicate (3 - (lg_sl ([.ref r0, .int a1])).length) Slot.unset).toArray = ls at hl ⊢
  have hl : lv_has ls 3 [(0, .ref r0), (1, .int a1)] := hl
  generalize hR : (headSpec (jw yX13_putBound cX13_putBound 3 none) ({ frames := 2, cells := 0, slots := 0, locals := 43 })).room = R
  subst hH0
  have hh : jSt (dC, dI) B base G0 G0 EX13_putBound s.heap 0 0 [] [] [] s.heap [] := jSt.start hX hP0 jMc.nil jIs.nil
  clear hX hP0
  have hk0 : (0 : Int32).toInt = 0 := by decide
  have hk1 : (1 : Int32).toInt = 1 := by decide
  have hk39 : (39 : Int32).toInt = 39 := by decide
  have hly_15_47 := htw (u_lay RX13 TX13 47) (jWc_wsX130 _ (u_in_lay (by decide)))
  have hly_15_48 := htw (u_lay RX13 TX13 48) (jWc_wsX130 _ (u_in_lay (by decide)))
  have hlk_93 := (htw (.fieldLink RX13 93 "ProofServerModel$Kernel" "writtenName" "[I") (jWr_15 _ (List.mem_of_getElem? (i := 12) rfl)))
  have hlk_96 := (htw (.fieldLink RX13 96 "ProofServerModel$Kernel" "writtenMarks" "[I") (jWr_15 _ (List.mem_of_getElem? (i := 13) rfl)))
  have hrg_a1 := jb_rng a1
  refine lv_aload_n hx hb dX13_putBound_0 rfl (lv_at hl 0 rfl) ?_
  refine lv_aload_n hx hb dX13_putBound_1 rfl (lv_at hl 0 rfl) ?_
  obtain ⟨v_1, hv_1, hh_2⟩ := hh.pin (C := RX13) (T := TX13) (N := 50) hB15 rfl (by decide) hg_r0 (i := 47) (by decide) rfl
  clear hh
  obtain ⟨writtenName_3, rfl, hg_writtenName_3⟩ := hv_1
  refine j7_read hx hb hown hK (C := RX13) (T := TX13) (N := 50) rfl hly_15_47 hlk_93 (hh_2.at 0 rfl) dX13_putBound_2 ?_
  refine lv_iload_n hx hb dX13_putBound_5 rfl (lv_at hl 1 rfl) ?_
  refine j7_iald hx hb hK hh_2 hB163 1 rfl (by decide) hg_writtenName_3 (x := a1.toInt) (rfl) (by omega) dX13_putBound_6 (fun z_4 (hz_4 : 0 ≤ z_4.toInt ∧ z_4.toInt ≤ 1599) => ?_)
  refine va_callv (A0 := jA base) (H0 := s.heap) (va_runV (As := [.int z_4]) (rest := []) ⟨hx, hb, hml, hown, hts⟩ (uX13_putName l dC dI ca base B hB hAp hB15 hB101 hB155 hB156 hB166 G0 s.heap r0 z_4) (cwV 1 hts (jgV (jWr_70 _ (List.mem_of_getElem? (i := 19) rfl)) (jWr_70 _ (List.mem_of_getElem? (i := 3) rfl)) (jWr_70 _ (List.mem_of_getElem? (i := 4) rfl)) (jWr_12 _ (List.mem_of_getElem? (i := 12) rfl)) (jWr_70 _ (List.mem_of_getElem? (i := 5) rfl))) rfl rfl rfl (by decide +kernel) ⟨by rw [← hR]; exact Nat.le_of_ble_eq_true rfl, by rw [← hR]; exact Nat.le_of_ble_eq_true rfl⟩) ⟨fun a U g mk q => by obtain ⟨q0, q1, q2, qK, q10, q11, q12⟩ := q; exact ⟨q0, q1, q2, jG.calling g mk a qK, q10, q11, q12⟩, hh_2.recv (C := RX13) (T := TX13) (N := 50) hB15 rfl (by decide) hg_r0 hK, fun U hU hW => ⟨rfl, hU, hh_2.2.1, hG.step hW hU hh_2.1, hg_r0, jP.nil, by first | omega | (refine ⟨?_, ?_⟩ <;> (first | omega | rfl | assumption | decide | exact Or.inl rfl | exact Or.inr rfl | (simp only; omega)))⟩⟩ rfl rfl hl.1 rfl (lv_room (Nat.le_of_ble_eq_true rfl)) dX13_putBound_7 ⟨Nat.zero_le _, Nat.zero_le _⟩) hh_2.1 (fun q _ h => h) (fun q h => h) (fun u_5 t_5 H_5 locs_5 ht_5 hvm_5 hr_6 hb_5 hz_5 hk_5 hS_5 => ?_)
  rw [ht_5] at hb_5
  obtain ⟨hb_51, hb_52, hb_53, hb_54, hb_55⟩ := hb_5
  have hh_5 : jSt (dC, dI) B base G0 G0 EX13_putBound s.heap 0 0 [(r0, 15, 47, .ref writtenName_3)] [] [] H_5 locs_5 := ((hh_2.call hb_51 hb_52 hb_53 hb_54 hS_5 rfl (L1 := [(r0, 15, 47, .ref writtenName_3)]) [0] rfl rfl (M1 := []) [] rfl rfl (I1 := []) [] rfl rfl).more hb_55)
  clear hh_2 ht_5 hvm_5 hz_5 hk_5 hS_5 hb_51 hb_52 hb_53 hb_54 hb_55
  refine lv_iconst (v := 0) hx hb dX13_putBound_10 (by decide) ?_
  refine lv_istore_n (lv' := [(2, .int 0), (0, .ref r0), (1, .int a1)]) hx hb dX13_putBound_11 rfl hl (by decide) rfl (fun ls hl => ?_)
  have L12 : ∀ (N : Nat) (v2_7 : Int32) (H_7 : Heap) (locs_7 : List Loc), jSt (dC, dI) B base G0 G0 EX13_putBound s.heap 0 0 [(r0, 15, 47, .ref writtenName_3)] [] [] H_7 locs_7 → (0 ≤ v2_7.toInt ∧ v2_7.toInt ≤ 100000) → (100000 - v2_7.toInt : Int) < N → ∀ ls : Array Slot, lv_has ls 3 [(0, .ref r0), (1, .int a1), (2, .int v2_7)] → W p l e R s m ([.ref r0, .int a1] : List Value).toArray below meth c H_7 locs_7 0 0 Q (F0 m 12 ls []) := by
    intro N
    induction N with
    | zero => intro v2_7 H_7 locs_7 hh_7  hi_7 hm; exact absurd hm (by omega)
    | succ N L12 =>
      intro v2_7 H_7 locs_7 hh_7  hi_7 hm_7 ls hl
      obtain ⟨hi_7_0, hi_7_1⟩ := hi_7
      refine lv_iload_n hx hb dX13_putBound_12 rfl (lv_at hl 2 rfl) ?_
      refine lv_aload_n hx hb dX13_putBound_13 rfl (lv_at hl 0 rfl) ?_
      obtain ⟨v_8, hv_8, hh_9⟩ := hh_7.pin (C := RX13) (T := TX13) (N := 50) hB15 rfl (by decide) hg_r0 (i := 48) (by decide) rfl
      clear hh_7
      obtain ⟨writtenMarks_10, rfl, hg_writtenMarks_10⟩ := hv_8
      refine j7_read hx hb hown hK (C := RX13) (T := TX13) (N := 50) rfl hly_15_48 hlk_96 (hh_9.at 0 rfl) dX13_putBound_14 ?_
      refine lv_iload_n hx hb dX13_putBound_17 rfl (lv_at hl 1 rfl) ?_
      refine j7_iald hx hb hK hh_9 hB164 1 rfl (by decide) hg_writtenMarks_10 (x := a1.toInt) (rfl) (by omega) dX13_putBound_18 (fun z_11 (hz_11 : 0 ≤ z_11.toInt ∧ z_11.toInt ≤ 100000) => ?_)
      refine lv_icmp_ge (tgt := 34) hx hb dX13_putBound_19 (by decide) (fun c_12 => ?_) (fun c_12 => ?_)
      · skip
        have c_12' : v2_7.toInt ≥ z_11.toInt := jb_ge (rfl) (rfl) c_12
        rw [hQ]
        exact W.vret hx hb hr (fun t ht hW => ⟨⟨(), rfl, trivial, hh_9.rt (M1 := []) [] rfl ht⟩, by rw [ht]; try exact hh_9.1.1, fun q h9 hq => by rw [ht]; try exact hh_9.1.2.1 q h9 hq⟩) hh_9.1.2.2 dX13_putBound_34
      · skip
        have c_12' : v2_7.toInt < z_11.toInt := jb_ge_n (rfl) (rfl) c_12
        refine lv_aload_n hx hb dX13_putBound_22 rfl (lv_at hl 0 rfl) ?_
        refine lv_bipush (v := 39) hx hb dX13_putBound_23 (by decide) ?_
        refine va_callv (A0 := jA base) (H0 := s.heap) (va_runV (As := [.int 39]) (rest := []) ⟨hx, hb, hml, hown, hts⟩ (uX13_put l dC dI ca base B hB hAp hB15 hB101 G0 H_7 r0 39) (cwV 1 hts (jgV (jWr_70 _ (List.mem_of_getElem? (i := 6) rfl)) (jWr_70 _ (List.mem_of_getElem? (i := 7) rfl)) (jWr_70 _ (List.mem_of_getElem? (i := 8) rfl)) (jWr_12 _ (List.mem_of_getElem? (i := 12) rfl)) (jWr_70 _ (List.mem_of_getElem? (i := 9) rfl))) rfl rfl rfl (by decide +kernel) ⟨by rw [← hR]; exact Nat.le_of_ble_eq_true rfl, by rw [← hR]; exact Nat.le_of_ble_eq_true rfl⟩) ⟨fun a U g mk q => by obtain ⟨q0, q1, q2, qK, q10, q11, q12⟩ := q; exact ⟨q0, q1, q2, jG.calling g mk a qK, q10, q11, q12⟩, hh_9.recv (C := RX13) (T := TX13) (N := 50) hB15 rfl (by decide) hg_r0 hK, fun U hU hW => ⟨rfl, hU, hh_9.2.1, hG.step hW hU hh_9.1, hg_r0, jP.nil, trivial⟩⟩ rfl rfl hl.1 rfl (lv_room (Nat.le_of_ble_eq_true rfl)) dX13_putBound_25 ⟨Nat.zero_le _, Nat.zero_le _⟩) hh_9.1 (fun q _ h => h) (fun q h => h) (fun u_13 t_13 H_13 locs_13 ht_13 hvm_13 hr_14 hb_13 hz_13 hk_13 hS_13 => ?_)
        rw [ht_13] at hb_13
        obtain ⟨hb_131, hb_132, hb_133, hb_134, hb_135⟩ := hb_13
        have hh_13 : jSt (dC, dI) B base G0 G0 EX13_putBound s.heap 0 0 [(r0, 15, 48, .ref writtenMarks_10), (r0, 15, 47, .ref writtenName_3)] [] [] H_13 locs_13 := ((hh_9.call hb_131 hb_132 hb_133 hb_134 hS_13 rfl (L1 := [(r0, 15, 48, .ref writtenMarks_10), (r0, 15, 47, .ref writtenName_3)]) [0, 1] rfl rfl (M1 := []) [] rfl rfl (I1 := []) [] rfl rfl).more hb_135)
        clear hh_9 ht_13 hvm_13 hz_13 hk_13 hS_13 hb_131 hb_132 hb_133 hb_134 hb_135
        obtain ⟨z_15, ez_15⟩ : ∃ y : Int32, y = v2_7 + 1 := ⟨_, rfl⟩
        refine lv_iinc (v := z_15) (lv' := [(2, .int z_15), (0, .ref r0), (1, .int a1)]) hx hb dX13_putBound_28 hl (k := 2) rfl (by rw [ez_15]; rfl) (by decide) rfl (fun ls hl => ?_)
        have hz_15 : z_15.toInt = v2_7.toInt + 1 := by rw [ez_15]; exact jb_iadd2 (rfl) (by decide) (by omega)
        refine lv_goto (tgt := 12) hx hb dX13_putBound_31 (by decide) ?_
        exact L12 z_15 _ _ (hh_13.sub (L1 := [(r0, 15, 47, .ref writtenName_3)]) [1] rfl (M1 := []) [] rfl (I1 := []) [] rfl) (by first | omega | (refine ⟨?_, ?_⟩ <;> (first | omega | rfl | assumption | decide | exact Or.inl rfl | exact Or.inr rfl | (simp only; omega)))) (by omega) _ (lv_sub hl [1, 2, 0] rfl)
  exact L12 (100000 - (0 : Int32).toInt : Int).toNat.succ 0 _ _ hh_5 (by first | omega | (refine ⟨?_, ?_⟩ <;> (first | omega | rfl | assumption | decide | exact Or.inl rfl | exact Or.inr rfl | (simp only; omega)))) (by omega) _ (lv_sub hl [1, 2, 0] rfl)
end
