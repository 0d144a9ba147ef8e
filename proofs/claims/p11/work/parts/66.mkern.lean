def jTk (f g : Nat → Int32) (i n c : Int) : Int := if i < n ∧ (f i.toNat).toInt = 3 ∧ (g i.toNat).toInt = c then 1 else 0
theorem jTk_le (f g : Nat → Int32) (i n c : Int) : 0 ≤ jTk f g i n c ∧ jTk f g i n c ≤ 1 := by unfold jTk; split <;> omega
def F15 (n : Nat) (G : jT) : List (Value → Prop) := [jRf G 150 120000, jRf G 151 120000, jRf G 152 120000, jRf G 153 120000, jRf G 154 120000, jI 0 120000, jRf G 166 12000, jI 0 12000, jRf G 155 1600, jRf G 156 1600, jI 0 1600, jI 0 16, jRf G 163 16, jRf G 103 16, jRf G 165 16, jI 0 16, jRf G 163 16, jRf G 160 16, jZb, jI 0 1599, jI 0 119999, jI 0 6, jRf G 161 46, jRf G 158 46, jRf G 163 276, jRf G 159 46, jRf G 163 368, jRf G 162 368, jRf G 167 1500, jRf G 157 1500, jI 0 1500, jIa, jI 0 1600, jZb, jI 0 9, jRf G 163 200, jI 0 200, jRf G 169 1, jI 0 1599, jI 0 1599, jI 0 1599, jI 0 3, jI 0 119999, jRf G 169 100, jRf G 168 100, jRf G 101 100000, jI 0 100000, jRf G 163 100, jRf G 164 100, jI 0 100]
def jLt (x : Int) : Int := if jIn x 97 122 = 1 then 1 else jIn x 65 90
theorem dX13_begin_0 : decode cX13_begin 0 = .ok (.aload_n 0, 1) := by decide +kernel
theorem dX13_begin_1 : decode cX13_begin 1 = .ok (.iconst 0, 1) := by decide +kernel
theorem dX13_begin_2 : decode cX13_begin 2 = .ok (.putfield 99, 3) := by decide +kernel
theorem dX13_begin_5 : decode cX13_begin 5 = .ok (.aload_n 0, 1) := by decide +kernel
theorem dX13_begin_6 : decode cX13_begin 6 = .ok (.iconst 0, 1) := by decide +kernel
theorem dX13_begin_7 : decode cX13_begin 7 = .ok (.putfield 103, 3) := by decide +kernel
theorem dX13_begin_10 : decode cX13_begin 10 = .ok (.aload_n 0, 1) := by decide +kernel
theorem dX13_begin_11 : decode cX13_begin 11 = .ok (.iconst 0, 1) := by decide +kernel
theorem dX13_begin_12 : decode cX13_begin 12 = .ok (.putfield 106, 3) := by decide +kernel
theorem dX13_begin_15 : decode cX13_begin 15 = .ok (.aload_n 0, 1) := by decide +kernel
theorem dX13_begin_16 : decode cX13_begin 16 = .ok (.iconst 0, 1) := by decide +kernel
theorem dX13_begin_17 : decode cX13_begin 17 = .ok (.putfield 109, 3) := by decide +kernel
theorem dX13_begin_20 : decode cX13_begin 20 = .ok (.aload_n 0, 1) := by decide +kernel
theorem dX13_begin_21 : decode cX13_begin 21 = .ok (.iconst 0, 1) := by decide +kernel
theorem dX13_begin_22 : decode cX13_begin 22 = .ok (.putfield 112, 3) := by decide +kernel
theorem dX13_begin_25 : decode cX13_begin 25 = .ok (.aload_n 0, 1) := by decide +kernel
theorem dX13_begin_26 : decode cX13_begin 26 = .ok (.iconst 0, 1) := by decide +kernel
theorem dX13_begin_27 : decode cX13_begin 27 = .ok (.putfield 115, 3) := by decide +kernel
theorem dX13_begin_30 : decode cX13_begin 30 = .ok (.aload_n 0, 1) := by decide +kernel
theorem dX13_begin_31 : decode cX13_begin 31 = .ok (.iconst 0, 1) := by decide +kernel
theorem dX13_begin_32 : decode cX13_begin 32 = .ok (.putfield 119, 3) := by decide +kernel
theorem dX13_begin_35 : decode cX13_begin 35 = .ok (.return_, 1) := by decide +kernel
theorem dX13_nameOf_0 : decode cX13_nameOf 0 = .ok (.iconst 0, 1) := by decide +kernel
theorem dX13_nameOf_1 : decode cX13_nameOf 1 = .ok (.istore 4, 2) := by decide +kernel
theorem dX13_nameOf_3 : decode cX13_nameOf 3 = .ok (.iload 4, 2) := by decide +kernel
theorem dX13_nameOf_5 : decode cX13_nameOf 5 = .ok (.aload_n 0, 1) := by decide +kernel
theorem dX13_nameOf_6 : decode cX13_nameOf 6 = .ok (.getfield 103, 3) := by decide +kernel
theorem dX13_nameOf_9 : decode cX13_nameOf 9 = .ok (.if_icmp .ge 94, 3) := by decide +kernel
theorem dX13_nameOf_12 : decode cX13_nameOf 12 = .ok (.aload_n 0, 1) := by decide +kernel
theorem dX13_nameOf_13 : decode cX13_nameOf 13 = .ok (.getfield 34, 3) := by decide +kernel
theorem dX13_nameOf_16 : decode cX13_nameOf 16 = .ok (.iload 4, 2) := by decide +kernel
theorem dX13_nameOf_18 : decode cX13_nameOf 18 = .ok (.iaload, 1) := by decide +kernel
theorem dX13_nameOf_19 : decode cX13_nameOf 19 = .ok (.iload_n 3, 1) := by decide +kernel
theorem dX13_nameOf_20 : decode cX13_nameOf 20 = .ok (.iload_n 2, 1) := by decide +kernel
theorem dX13_nameOf_21 : decode cX13_nameOf 21 = .ok (.isub, 1) := by decide +kernel
theorem dX13_nameOf_22 : decode cX13_nameOf 22 = .ok (.if_icmp .ne 7, 3) := by decide +kernel
theorem dX13_nameOf_25 : decode cX13_nameOf 25 = .ok (.iconst 1, 1) := by decide +kernel
theorem dX13_nameOf_26 : decode cX13_nameOf 26 = .ok (.goto 4, 3) := by decide +kernel
theorem dX13_nameOf_29 : decode cX13_nameOf 29 = .ok (.iconst 0, 1) := by decide +kernel
theorem dX13_nameOf_30 : decode cX13_nameOf 30 = .ok (.istore 5, 2) := by decide +kernel
theorem dX13_nameOf_32 : decode cX13_nameOf 32 = .ok (.iconst 0, 1) := by decide +kernel
theorem dX13_nameOf_33 : decode cX13_nameOf 33 = .ok (.istore 6, 2) := by decide +kernel
theorem dX13_nameOf_35 : decode cX13_nameOf 35 = .ok (.iload 6, 2) := by decide +kernel
theorem dX13_nameOf_37 : decode cX13_nameOf 37 = .ok (.aload_n 0, 1) := by decide +kernel
theorem dX13_nameOf_38 : decode cX13_nameOf 38 = .ok (.getfield 34, 3) := by decide +kernel
theorem dX13_nameOf_41 : decode cX13_nameOf 41 = .ok (.iload 4, 2) := by decide +kernel
theorem dX13_nameOf_43 : decode cX13_nameOf 43 = .ok (.iaload, 1) := by decide +kernel
theorem dX13_nameOf_44 : decode cX13_nameOf 44 = .ok (.if_icmp .ge 45, 3) := by decide +kernel
theorem dX13_nameOf_47 : decode cX13_nameOf 47 = .ok (.iload 5, 2) := by decide +kernel
theorem dX13_nameOf_49 : decode cX13_nameOf 49 = .ok (.ifCond .eq 40, 3) := by decide +kernel
theorem dX13_nameOf_52 : decode cX13_nameOf 52 = .ok (.aload_n 0, 1) := by decide +kernel
theorem dX13_nameOf_53 : decode cX13_nameOf 53 = .ok (.getfield 28, 3) := by decide +kernel
theorem dX13_nameOf_56 : decode cX13_nameOf 56 = .ok (.aload_n 0, 1) := by decide +kernel
theorem dX13_nameOf_57 : decode cX13_nameOf 57 = .ok (.getfield 31, 3) := by decide +kernel
theorem dX13_nameOf_60 : decode cX13_nameOf 60 = .ok (.iload 4, 2) := by decide +kernel
theorem dX13_nameOf_62 : decode cX13_nameOf 62 = .ok (.iaload, 1) := by decide +kernel
theorem dX13_nameOf_63 : decode cX13_nameOf 63 = .ok (.iload 6, 2) := by decide +kernel
theorem dX13_nameOf_65 : decode cX13_nameOf 65 = .ok (.iadd, 1) := by decide +kernel
theorem dX13_nameOf_66 : decode cX13_nameOf 66 = .ok (.iaload, 1) := by decide +kernel
theorem dX13_nameOf_67 : decode cX13_nameOf 67 = .ok (.aload_n 1, 1) := by decide +kernel
theorem dX13_nameOf_68 : decode cX13_nameOf 68 = .ok (.iload_n 2, 1) := by decide +kernel
theorem dX13_nameOf_69 : decode cX13_nameOf 69 = .ok (.iload 6, 2) := by decide +kernel
theorem dX13_nameOf_71 : decode cX13_nameOf 71 = .ok (.iadd, 1) := by decide +kernel
theorem dX13_nameOf_72 : decode cX13_nameOf 72 = .ok (.iaload, 1) := by decide +kernel
theorem dX13_nameOf_73 : decode cX13_nameOf 73 = .ok (.if_icmp .ne 7, 3) := by decide +kernel
theorem dX13_nameOf_76 : decode cX13_nameOf 76 = .ok (.iconst 1, 1) := by decide +kernel
theorem dX13_nameOf_77 : decode cX13_nameOf 77 = .ok (.goto 4, 3) := by decide +kernel
theorem dX13_nameOf_80 : decode cX13_nameOf 80 = .ok (.iconst 0, 1) := by decide +kernel
theorem dX13_nameOf_81 : decode cX13_nameOf 81 = .ok (.istore 5, 2) := by decide +kernel
theorem dX13_nameOf_83 : decode cX13_nameOf 83 = .ok (.iinc 6 1, 3) := by decide +kernel
theorem dX13_nameOf_86 : decode cX13_nameOf 86 = .ok (.goto (-51), 3) := by decide +kernel
theorem dX13_nameOf_89 : decode cX13_nameOf 89 = .ok (.iload 5, 2) := by decide +kernel
theorem dX13_nameOf_91 : decode cX13_nameOf 91 = .ok (.ifCond .eq 6, 3) := by decide +kernel
theorem dX13_nameOf_94 : decode cX13_nameOf 94 = .ok (.iload 4, 2) := by decide +kernel
theorem dX13_nameOf_96 : decode cX13_nameOf 96 = .ok (.ireturn, 1) := by decide +kernel
theorem dX13_nameOf_97 : decode cX13_nameOf 97 = .ok (.iinc 4 1, 3) := by decide +kernel
theorem dX13_nameOf_100 : decode cX13_nameOf 100 = .ok (.goto (-97), 3) := by decide +kernel
theorem dX13_nameOf_103 : decode cX13_nameOf 103 = .ok (.aload_n 0, 1) := by decide +kernel
theorem dX13_nameOf_104 : decode cX13_nameOf 104 = .ok (.getfield 31, 3) := by decide +kernel
theorem dX13_nameOf_107 : decode cX13_nameOf 107 = .ok (.aload_n 0, 1) := by decide +kernel
theorem dX13_nameOf_108 : decode cX13_nameOf 108 = .ok (.getfield 103, 3) := by decide +kernel
theorem dX13_nameOf_111 : decode cX13_nameOf 111 = .ok (.aload_n 0, 1) := by decide +kernel
theorem dX13_nameOf_112 : decode cX13_nameOf 112 = .ok (.getfield 106, 3) := by decide +kernel
theorem dX13_nameOf_115 : decode cX13_nameOf 115 = .ok (.iastore, 1) := by decide +kernel
theorem dX13_nameOf_116 : decode cX13_nameOf 116 = .ok (.aload_n 0, 1) := by decide +kernel
theorem dX13_nameOf_117 : decode cX13_nameOf 117 = .ok (.getfield 34, 3) := by decide +kernel
theorem dX13_nameOf_120 : decode cX13_nameOf 120 = .ok (.aload_n 0, 1) := by decide +kernel
theorem dX13_nameOf_121 : decode cX13_nameOf 121 = .ok (.getfield 103, 3) := by decide +kernel
theorem dX13_nameOf_124 : decode cX13_nameOf 124 = .ok (.iload_n 3, 1) := by decide +kernel
theorem dX13_nameOf_125 : decode cX13_nameOf 125 = .ok (.iload_n 2, 1) := by decide +kernel
theorem dX13_nameOf_126 : decode cX13_nameOf 126 = .ok (.isub, 1) := by decide +kernel
theorem dX13_nameOf_127 : decode cX13_nameOf 127 = .ok (.iastore, 1) := by decide +kernel
theorem dX13_nameOf_128 : decode cX13_nameOf 128 = .ok (.iload_n 2, 1) := by decide +kernel
theorem dX13_nameOf_129 : decode cX13_nameOf 129 = .ok (.istore 4, 2) := by decide +kernel
theorem dX13_nameOf_131 : decode cX13_nameOf 131 = .ok (.iload 4, 2) := by decide +kernel
theorem dX13_nameOf_133 : decode cX13_nameOf 133 = .ok (.iload_n 3, 1) := by decide +kernel
theorem dX13_nameOf_134 : decode cX13_nameOf 134 = .ok (.if_icmp .ge 32, 3) := by decide +kernel
theorem dX13_nameOf_137 : decode cX13_nameOf 137 = .ok (.aload_n 0, 1) := by decide +kernel
theorem dX13_nameOf_138 : decode cX13_nameOf 138 = .ok (.getfield 28, 3) := by decide +kernel
theorem dX13_nameOf_141 : decode cX13_nameOf 141 = .ok (.aload_n 0, 1) := by decide +kernel
theorem dX13_nameOf_142 : decode cX13_nameOf 142 = .ok (.getfield 106, 3) := by decide +kernel
theorem dX13_nameOf_145 : decode cX13_nameOf 145 = .ok (.aload_n 1, 1) := by decide +kernel
theorem dX13_nameOf_146 : decode cX13_nameOf 146 = .ok (.iload 4, 2) := by decide +kernel
theorem dX13_nameOf_148 : decode cX13_nameOf 148 = .ok (.iaload, 1) := by decide +kernel
theorem dX13_nameOf_149 : decode cX13_nameOf 149 = .ok (.iastore, 1) := by decide +kernel
theorem dX13_nameOf_150 : decode cX13_nameOf 150 = .ok (.aload_n 0, 1) := by decide +kernel
theorem dX13_nameOf_151 : decode cX13_nameOf 151 = .ok (.dup, 1) := by decide +kernel
theorem dX13_nameOf_152 : decode cX13_nameOf 152 = .ok (.getfield 106, 3) := by decide +kernel
theorem dX13_nameOf_155 : decode cX13_nameOf 155 = .ok (.iconst 1, 1) := by decide +kernel
theorem dX13_nameOf_156 : decode cX13_nameOf 156 = .ok (.iadd, 1) := by decide +kernel
theorem dX13_nameOf_157 : decode cX13_nameOf 157 = .ok (.putfield 106, 3) := by decide +kernel
theorem dX13_nameOf_160 : decode cX13_nameOf 160 = .ok (.iinc 4 1, 3) := by decide +kernel
theorem dX13_nameOf_163 : decode cX13_nameOf 163 = .ok (.goto (-32), 3) := by decide +kernel
theorem dX13_nameOf_166 : decode cX13_nameOf 166 = .ok (.aload_n 0, 1) := by decide +kernel
theorem dX13_nameOf_167 : decode cX13_nameOf 167 = .ok (.dup, 1) := by decide +kernel
theorem dX13_nameOf_168 : decode cX13_nameOf 168 = .ok (.getfield 103, 3) := by decide +kernel
theorem dX13_nameOf_171 : decode cX13_nameOf 171 = .ok (.iconst 1, 1) := by decide +kernel
theorem dX13_nameOf_172 : decode cX13_nameOf 172 = .ok (.iadd, 1) := by decide +kernel
theorem dX13_nameOf_173 : decode cX13_nameOf 173 = .ok (.putfield 103, 3) := by decide +kernel
theorem dX13_nameOf_176 : decode cX13_nameOf 176 = .ok (.aload_n 0, 1) := by decide +kernel
theorem dX13_nameOf_177 : decode cX13_nameOf 177 = .ok (.getfield 103, 3) := by decide +kernel
theorem dX13_nameOf_180 : decode cX13_nameOf 180 = .ok (.iconst 1, 1) := by decide +kernel
theorem dX13_nameOf_181 : decode cX13_nameOf 181 = .ok (.isub, 1) := by decide +kernel
theorem dX13_nameOf_182 : decode cX13_nameOf 182 = .ok (.ireturn, 1) := by decide +kernel
theorem dX13_isNamed_0 : decode cX13_isNamed 0 = .ok (.aload_n 0, 1) := by decide +kernel
theorem dX13_isNamed_1 : decode cX13_isNamed 1 = .ok (.getfield 34, 3) := by decide +kernel
theorem dX13_isNamed_4 : decode cX13_isNamed 4 = .ok (.iload_n 1, 1) := by decide +kernel
theorem dX13_isNamed_5 : decode cX13_isNamed 5 = .ok (.iaload, 1) := by decide +kernel
theorem dX13_isNamed_6 : decode cX13_isNamed 6 = .ok (.aload_n 2, 1) := by decide +kernel
theorem dX13_isNamed_7 : decode cX13_isNamed 7 = .ok (.invokevirtual 122, 3) := by decide +kernel
theorem dX13_isNamed_10 : decode cX13_isNamed 10 = .ok (.if_icmp .ne 7, 3) := by decide +kernel
theorem dX13_isNamed_13 : decode cX13_isNamed 13 = .ok (.iconst 1, 1) := by decide +kernel
theorem dX13_isNamed_14 : decode cX13_isNamed 14 = .ok (.goto 4, 3) := by decide +kernel
theorem dX13_isNamed_17 : decode cX13_isNamed 17 = .ok (.iconst 0, 1) := by decide +kernel
theorem dX13_isNamed_18 : decode cX13_isNamed 18 = .ok (.istore_n 3, 1) := by decide +kernel
theorem dX13_isNamed_19 : decode cX13_isNamed 19 = .ok (.iconst 0, 1) := by decide +kernel
theorem dX13_isNamed_20 : decode cX13_isNamed 20 = .ok (.istore 4, 2) := by decide +kernel
theorem dX13_isNamed_22 : decode cX13_isNamed 22 = .ok (.iload 4, 2) := by decide +kernel
theorem dX13_isNamed_24 : decode cX13_isNamed 24 = .ok (.aload_n 2, 1) := by decide +kernel
theorem dX13_isNamed_25 : decode cX13_isNamed 25 = .ok (.invokevirtual 122, 3) := by decide +kernel
theorem dX13_isNamed_28 : decode cX13_isNamed 28 = .ok (.if_icmp .ge 42, 3) := by decide +kernel
theorem dX13_isNamed_31 : decode cX13_isNamed 31 = .ok (.iload_n 3, 1) := by decide +kernel
theorem dX13_isNamed_32 : decode cX13_isNamed 32 = .ok (.ifCond .eq 38, 3) := by decide +kernel
theorem dX13_isNamed_35 : decode cX13_isNamed 35 = .ok (.aload_n 0, 1) := by decide +kernel
theorem dX13_isNamed_36 : decode cX13_isNamed 36 = .ok (.getfield 28, 3) := by decide +kernel
theorem dX13_isNamed_39 : decode cX13_isNamed 39 = .ok (.aload_n 0, 1) := by decide +kernel
theorem dX13_isNamed_40 : decode cX13_isNamed 40 = .ok (.getfield 31, 3) := by decide +kernel
theorem dX13_isNamed_43 : decode cX13_isNamed 43 = .ok (.iload_n 1, 1) := by decide +kernel
theorem dX13_isNamed_44 : decode cX13_isNamed 44 = .ok (.iaload, 1) := by decide +kernel
theorem dX13_isNamed_45 : decode cX13_isNamed 45 = .ok (.iload 4, 2) := by decide +kernel
theorem dX13_isNamed_47 : decode cX13_isNamed 47 = .ok (.iadd, 1) := by decide +kernel
theorem dX13_isNamed_48 : decode cX13_isNamed 48 = .ok (.iaload, 1) := by decide +kernel
theorem dX13_isNamed_49 : decode cX13_isNamed 49 = .ok (.aload_n 2, 1) := by decide +kernel
theorem dX13_isNamed_50 : decode cX13_isNamed 50 = .ok (.iload 4, 2) := by decide +kernel
theorem dX13_isNamed_52 : decode cX13_isNamed 52 = .ok (.invokevirtual 128, 3) := by decide +kernel
theorem dX13_isNamed_55 : decode cX13_isNamed 55 = .ok (.if_icmp .ne 7, 3) := by decide +kernel
theorem dX13_isNamed_58 : decode cX13_isNamed 58 = .ok (.iconst 1, 1) := by decide +kernel
theorem dX13_isNamed_59 : decode cX13_isNamed 59 = .ok (.goto 4, 3) := by decide +kernel
theorem dX13_isNamed_62 : decode cX13_isNamed 62 = .ok (.iconst 0, 1) := by decide +kernel
theorem dX13_isNamed_63 : decode cX13_isNamed 63 = .ok (.istore_n 3, 1) := by decide +kernel
theorem dX13_isNamed_64 : decode cX13_isNamed 64 = .ok (.iinc 4 1, 3) := by decide +kernel
theorem dX13_isNamed_67 : decode cX13_isNamed 67 = .ok (.goto (-45), 3) := by decide +kernel
theorem dX13_isNamed_70 : decode cX13_isNamed 70 = .ok (.iload_n 3, 1) := by decide +kernel
theorem dX13_isNamed_71 : decode cX13_isNamed 71 = .ok (.ireturn, 1) := by decide +kernel
theorem dX13_node_0 : decode cX13_node 0 = .ok (.aload_n 0, 1) := by decide +kernel
theorem dX13_node_1 : decode cX13_node 1 = .ok (.getfield 12, 3) := by decide +kernel
theorem dX13_node_4 : decode cX13_node 4 = .ok (.aload_n 0, 1) := by decide +kernel
theorem dX13_node_5 : decode cX13_node 5 = .ok (.getfield 99, 3) := by decide +kernel
theorem dX13_node_8 : decode cX13_node 8 = .ok (.iload_n 1, 1) := by decide +kernel
theorem dX13_node_9 : decode cX13_node 9 = .ok (.iastore, 1) := by decide +kernel
theorem dX13_node_10 : decode cX13_node 10 = .ok (.aload_n 0, 1) := by decide +kernel
theorem dX13_node_11 : decode cX13_node 11 = .ok (.getfield 16, 3) := by decide +kernel
theorem dX13_node_14 : decode cX13_node 14 = .ok (.aload_n 0, 1) := by decide +kernel
theorem dX13_node_15 : decode cX13_node 15 = .ok (.getfield 99, 3) := by decide +kernel
theorem dX13_node_18 : decode cX13_node 18 = .ok (.iload_n 2, 1) := by decide +kernel
theorem dX13_node_19 : decode cX13_node 19 = .ok (.iastore, 1) := by decide +kernel
theorem dX13_node_20 : decode cX13_node 20 = .ok (.aload_n 0, 1) := by decide +kernel
theorem dX13_node_21 : decode cX13_node 21 = .ok (.getfield 19, 3) := by decide +kernel
theorem dX13_node_24 : decode cX13_node 24 = .ok (.aload_n 0, 1) := by decide +kernel
theorem dX13_node_25 : decode cX13_node 25 = .ok (.getfield 99, 3) := by decide +kernel
theorem dX13_node_28 : decode cX13_node 28 = .ok (.iload_n 3, 1) := by decide +kernel
theorem dX13_node_29 : decode cX13_node 29 = .ok (.iastore, 1) := by decide +kernel
theorem dX13_node_30 : decode cX13_node 30 = .ok (.aload_n 0, 1) := by decide +kernel
theorem dX13_node_31 : decode cX13_node 31 = .ok (.getfield 22, 3) := by decide +kernel
theorem dX13_node_34 : decode cX13_node 34 = .ok (.aload_n 0, 1) := by decide +kernel
theorem dX13_node_35 : decode cX13_node 35 = .ok (.getfield 99, 3) := by decide +kernel
theorem dX13_node_38 : decode cX13_node 38 = .ok (.iload 4, 2) := by decide +kernel
theorem dX13_node_40 : decode cX13_node 40 = .ok (.iastore, 1) := by decide +kernel
theorem dX13_node_41 : decode cX13_node 41 = .ok (.aload_n 0, 1) := by decide +kernel
theorem dX13_node_42 : decode cX13_node 42 = .ok (.getfield 25, 3) := by decide +kernel
theorem dX13_node_45 : decode cX13_node 45 = .ok (.aload_n 0, 1) := by decide +kernel
theorem dX13_node_46 : decode cX13_node 46 = .ok (.getfield 99, 3) := by decide +kernel
theorem dX13_node_49 : decode cX13_node 49 = .ok (.iload 5, 2) := by decide +kernel
theorem dX13_node_51 : decode cX13_node 51 = .ok (.iastore, 1) := by decide +kernel
theorem dX13_node_52 : decode cX13_node 52 = .ok (.aload_n 0, 1) := by decide +kernel
theorem dX13_node_53 : decode cX13_node 53 = .ok (.dup, 1) := by decide +kernel
theorem dX13_node_54 : decode cX13_node 54 = .ok (.getfield 99, 3) := by decide +kernel
theorem dX13_node_57 : decode cX13_node 57 = .ok (.iconst 1, 1) := by decide +kernel
theorem dX13_node_58 : decode cX13_node 58 = .ok (.iadd, 1) := by decide +kernel
theorem dX13_node_59 : decode cX13_node 59 = .ok (.putfield 99, 3) := by decide +kernel
theorem dX13_node_62 : decode cX13_node 62 = .ok (.aload_n 0, 1) := by decide +kernel
theorem dX13_node_63 : decode cX13_node 63 = .ok (.getfield 99, 3) := by decide +kernel
theorem dX13_node_66 : decode cX13_node 66 = .ok (.iconst 1, 1) := by decide +kernel
theorem dX13_node_67 : decode cX13_node 67 = .ok (.isub, 1) := by decide +kernel
theorem dX13_node_68 : decode cX13_node 68 = .ok (.ireturn, 1) := by decide +kernel
theorem dX13_part_0 : decode cX13_part 0 = .ok (.iload_n 2, 1) := by decide +kernel
theorem dX13_part_1 : decode cX13_part 1 = .ok (.ifCond .ne 12, 3) := by decide +kernel
theorem dX13_part_4 : decode cX13_part 4 = .ok (.aload_n 0, 1) := by decide +kernel
theorem dX13_part_5 : decode cX13_part 5 = .ok (.getfield 19, 3) := by decide +kernel
theorem dX13_part_8 : decode cX13_part 8 = .ok (.iload_n 1, 1) := by decide +kernel
theorem dX13_part_9 : decode cX13_part 9 = .ok (.iaload, 1) := by decide +kernel
theorem dX13_part_10 : decode cX13_part 10 = .ok (.goto 23, 3) := by decide +kernel
theorem dX13_part_13 : decode cX13_part 13 = .ok (.iload_n 2, 1) := by decide +kernel
theorem dX13_part_14 : decode cX13_part 14 = .ok (.iconst 1, 1) := by decide +kernel
theorem dX13_part_15 : decode cX13_part 15 = .ok (.if_icmp .ne 12, 3) := by decide +kernel
theorem dX13_part_18 : decode cX13_part 18 = .ok (.aload_n 0, 1) := by decide +kernel
theorem dX13_part_19 : decode cX13_part 19 = .ok (.getfield 22, 3) := by decide +kernel
theorem dX13_part_22 : decode cX13_part 22 = .ok (.iload_n 1, 1) := by decide +kernel
theorem dX13_part_23 : decode cX13_part 23 = .ok (.iaload, 1) := by decide +kernel
theorem dX13_part_24 : decode cX13_part 24 = .ok (.goto 9, 3) := by decide +kernel
theorem dX13_part_27 : decode cX13_part 27 = .ok (.aload_n 0, 1) := by decide +kernel
theorem dX13_part_28 : decode cX13_part 28 = .ok (.getfield 25, 3) := by decide +kernel
theorem dX13_part_31 : decode cX13_part 31 = .ok (.iload_n 1, 1) := by decide +kernel
theorem dX13_part_32 : decode cX13_part 32 = .ok (.iaload, 1) := by decide +kernel
theorem dX13_part_33 : decode cX13_part 33 = .ok (.ireturn, 1) := by decide +kernel
theorem dX13_isLetter_0 : decode cX13_isLetter 0 = .ok (.iload_n 0, 1) := by decide +kernel
theorem dX13_isLetter_1 : decode cX13_isLetter 1 = .ok (.bipush 97, 2) := by decide +kernel
theorem dX13_isLetter_3 : decode cX13_isLetter 3 = .ok (.bipush 122, 2) := by decide +kernel
theorem dX13_isLetter_5 : decode cX13_isLetter 5 = .ok (.invokestatic 132, 3) := by decide +kernel
theorem dX13_isLetter_8 : decode cX13_isLetter 8 = .ok (.ifCond .ne 14, 3) := by decide +kernel
theorem dX13_isLetter_11 : decode cX13_isLetter 11 = .ok (.iload_n 0, 1) := by decide +kernel
theorem dX13_isLetter_12 : decode cX13_isLetter 12 = .ok (.bipush 65, 2) := by decide +kernel
theorem dX13_isLetter_14 : decode cX13_isLetter 14 = .ok (.bipush 90, 2) := by decide +kernel
theorem dX13_isLetter_16 : decode cX13_isLetter 16 = .ok (.invokestatic 132, 3) := by decide +kernel
theorem dX13_isLetter_19 : decode cX13_isLetter 19 = .ok (.ifCond .eq 7, 3) := by decide +kernel
theorem dX13_isLetter_22 : decode cX13_isLetter 22 = .ok (.iconst 1, 1) := by decide +kernel
theorem dX13_isLetter_23 : decode cX13_isLetter 23 = .ok (.goto 4, 3) := by decide +kernel
theorem dX13_isLetter_26 : decode cX13_isLetter 26 = .ok (.iconst 0, 1) := by decide +kernel
theorem dX13_isLetter_27 : decode cX13_isLetter 27 = .ok (.ireturn, 1) := by decide +kernel
theorem dX13_isNameSign_0 : decode cX13_isNameSign 0 = .ok (.iload_n 0, 1) := by decide +kernel
theorem dX13_isNameSign_1 : decode cX13_isNameSign 1 = .ok (.invokestatic 136, 3) := by decide +kernel
theorem dX13_isNameSign_4 : decode cX13_isNameSign 4 = .ok (.ifCond .ne 26, 3) := by decide +kernel
theorem dX13_isNameSign_7 : decode cX13_isNameSign 7 = .ok (.iload_n 0, 1) := by decide +kernel
theorem dX13_isNameSign_8 : decode cX13_isNameSign 8 = .ok (.bipush 48, 2) := by decide +kernel
theorem dX13_isNameSign_10 : decode cX13_isNameSign 10 = .ok (.bipush 57, 2) := by decide +kernel
theorem dX13_isNameSign_12 : decode cX13_isNameSign 12 = .ok (.invokestatic 132, 3) := by decide +kernel
theorem dX13_isNameSign_15 : decode cX13_isNameSign 15 = .ok (.ifCond .ne 15, 3) := by decide +kernel
theorem dX13_isNameSign_18 : decode cX13_isNameSign 18 = .ok (.iload_n 0, 1) := by decide +kernel
theorem dX13_isNameSign_19 : decode cX13_isNameSign 19 = .ok (.bipush 95, 2) := by decide +kernel
theorem dX13_isNameSign_21 : decode cX13_isNameSign 21 = .ok (.if_icmp .eq 9, 3) := by decide +kernel
theorem dX13_isNameSign_24 : decode cX13_isNameSign 24 = .ok (.iload_n 0, 1) := by decide +kernel
theorem dX13_isNameSign_25 : decode cX13_isNameSign 25 = .ok (.bipush 39, 2) := by decide +kernel
theorem dX13_isNameSign_27 : decode cX13_isNameSign 27 = .ok (.if_icmp .ne 7, 3) := by decide +kernel
theorem dX13_isNameSign_30 : decode cX13_isNameSign 30 = .ok (.iconst 1, 1) := by decide +kernel
theorem dX13_isNameSign_31 : decode cX13_isNameSign 31 = .ok (.goto 4, 3) := by decide +kernel
theorem dX13_isNameSign_34 : decode cX13_isNameSign 34 = .ok (.iconst 0, 1) := by decide +kernel
theorem dX13_isNameSign_35 : decode cX13_isNameSign 35 = .ok (.ireturn, 1) := by decide +kernel
theorem dX13_token_0 : decode cX13_token 0 = .ok (.aload_n 0, 1) := by decide +kernel
theorem dX13_token_1 : decode cX13_token 1 = .ok (.getfield 71, 3) := by decide +kernel
theorem dX13_token_4 : decode cX13_token 4 = .ok (.aload_n 0, 1) := by decide +kernel
theorem dX13_token_5 : decode cX13_token 5 = .ok (.getfield 140, 3) := by decide +kernel
theorem dX13_token_8 : decode cX13_token 8 = .ok (.iload_n 1, 1) := by decide +kernel
theorem dX13_token_9 : decode cX13_token 9 = .ok (.iastore, 1) := by decide +kernel
theorem dX13_token_10 : decode cX13_token 10 = .ok (.aload_n 0, 1) := by decide +kernel
theorem dX13_token_11 : decode cX13_token 11 = .ok (.getfield 74, 3) := by decide +kernel
theorem dX13_token_14 : decode cX13_token 14 = .ok (.aload_n 0, 1) := by decide +kernel
theorem dX13_token_15 : decode cX13_token 15 = .ok (.getfield 140, 3) := by decide +kernel
theorem dX13_token_18 : decode cX13_token 18 = .ok (.iload_n 2, 1) := by decide +kernel
theorem dX13_token_19 : decode cX13_token 19 = .ok (.iastore, 1) := by decide +kernel
theorem dX13_token_20 : decode cX13_token 20 = .ok (.aload_n 0, 1) := by decide +kernel
theorem dX13_token_21 : decode cX13_token 21 = .ok (.dup, 1) := by decide +kernel
theorem dX13_token_22 : decode cX13_token 22 = .ok (.getfield 140, 3) := by decide +kernel
theorem dX13_token_25 : decode cX13_token 25 = .ok (.iconst 1, 1) := by decide +kernel
theorem dX13_token_26 : decode cX13_token 26 = .ok (.iadd, 1) := by decide +kernel
theorem dX13_token_27 : decode cX13_token 27 = .ok (.putfield 140, 3) := by decide +kernel
theorem dX13_token_30 : decode cX13_token 30 = .ok (.return_, 1) := by decide +kernel
theorem dX13_is_0 : decode cX13_is 0 = .ok (.aload_n 0, 1) := by decide +kernel
theorem dX13_is_1 : decode cX13_is 1 = .ok (.getfield 171, 3) := by decide +kernel
theorem dX13_is_4 : decode cX13_is 4 = .ok (.aload_n 0, 1) := by decide +kernel
theorem dX13_is_5 : decode cX13_is 5 = .ok (.getfield 140, 3) := by decide +kernel
theorem dX13_is_8 : decode cX13_is 8 = .ok (.if_icmp .ge 33, 3) := by decide +kernel
theorem dX13_is_11 : decode cX13_is 11 = .ok (.aload_n 0, 1) := by decide +kernel
theorem dX13_is_12 : decode cX13_is 12 = .ok (.getfield 71, 3) := by decide +kernel
theorem dX13_is_15 : decode cX13_is 15 = .ok (.aload_n 0, 1) := by decide +kernel
theorem dX13_is_16 : decode cX13_is 16 = .ok (.getfield 171, 3) := by decide +kernel
theorem dX13_is_19 : decode cX13_is 19 = .ok (.iaload, 1) := by decide +kernel
theorem dX13_is_20 : decode cX13_is 20 = .ok (.iconst 3, 1) := by decide +kernel
theorem dX13_is_21 : decode cX13_is 21 = .ok (.if_icmp .ne 20, 3) := by decide +kernel
theorem dX13_is_24 : decode cX13_is 24 = .ok (.aload_n 0, 1) := by decide +kernel
theorem dX13_is_25 : decode cX13_is 25 = .ok (.getfield 74, 3) := by decide +kernel
theorem dX13_is_28 : decode cX13_is 28 = .ok (.aload_n 0, 1) := by decide +kernel
theorem dX13_is_29 : decode cX13_is 29 = .ok (.getfield 171, 3) := by decide +kernel
theorem dX13_is_32 : decode cX13_is 32 = .ok (.iaload, 1) := by decide +kernel
theorem dX13_is_33 : decode cX13_is 33 = .ok (.iload_n 1, 1) := by decide +kernel
theorem dX13_is_34 : decode cX13_is 34 = .ok (.if_icmp .ne 7, 3) := by decide +kernel
theorem dX13_is_37 : decode cX13_is 37 = .ok (.iconst 1, 1) := by decide +kernel
theorem dX13_is_38 : decode cX13_is 38 = .ok (.goto 4, 3) := by decide +kernel
theorem dX13_is_41 : decode cX13_is 41 = .ok (.iconst 0, 1) := by decide +kernel
theorem dX13_is_42 : decode cX13_is 42 = .ok (.ireturn, 1) := by decide +kernel
theorem dX13_isWord_0 : decode cX13_isWord 0 = .ok (.aload_n 0, 1) := by decide +kernel
theorem dX13_isWord_1 : decode cX13_isWord 1 = .ok (.getfield 171, 3) := by decide +kernel
theorem dX13_isWord_4 : decode cX13_isWord 4 = .ok (.aload_n 0, 1) := by decide +kernel
theorem dX13_isWord_5 : decode cX13_isWord 5 = .ok (.getfield 140, 3) := by decide +kernel
theorem dX13_isWord_8 : decode cX13_isWord 8 = .ok (.if_icmp .ge 37, 3) := by decide +kernel
theorem dX13_isWord_11 : decode cX13_isWord 11 = .ok (.aload_n 0, 1) := by decide +kernel
theorem dX13_isWord_12 : decode cX13_isWord 12 = .ok (.getfield 71, 3) := by decide +kernel
theorem dX13_isWord_15 : decode cX13_isWord 15 = .ok (.aload_n 0, 1) := by decide +kernel
theorem dX13_isWord_16 : decode cX13_isWord 16 = .ok (.getfield 171, 3) := by decide +kernel
theorem dX13_isWord_19 : decode cX13_isWord 19 = .ok (.iaload, 1) := by decide +kernel
theorem dX13_isWord_20 : decode cX13_isWord 20 = .ok (.iconst 1, 1) := by decide +kernel
theorem dX13_isWord_21 : decode cX13_isWord 21 = .ok (.if_icmp .ne 24, 3) := by decide +kernel
theorem dX13_isWord_24 : decode cX13_isWord 24 = .ok (.aload_n 0, 1) := by decide +kernel
theorem dX13_isWord_25 : decode cX13_isWord 25 = .ok (.aload_n 0, 1) := by decide +kernel
theorem dX13_isWord_26 : decode cX13_isWord 26 = .ok (.getfield 74, 3) := by decide +kernel
theorem dX13_isWord_29 : decode cX13_isWord 29 = .ok (.aload_n 0, 1) := by decide +kernel
theorem dX13_isWord_30 : decode cX13_isWord 30 = .ok (.getfield 171, 3) := by decide +kernel
theorem dX13_isWord_33 : decode cX13_isWord 33 = .ok (.iaload, 1) := by decide +kernel
theorem dX13_isWord_34 : decode cX13_isWord 34 = .ok (.aload_n 1, 1) := by decide +kernel
theorem dX13_isWord_35 : decode cX13_isWord 35 = .ok (.invokevirtual 174, 3) := by decide +kernel
theorem dX13_isWord_38 : decode cX13_isWord 38 = .ok (.ifCond .eq 7, 3) := by decide +kernel
theorem dX13_isWord_41 : decode cX13_isWord 41 = .ok (.iconst 1, 1) := by decide +kernel
theorem dX13_isWord_42 : decode cX13_isWord 42 = .ok (.goto 4, 3) := by decide +kernel
theorem dX13_isWord_45 : decode cX13_isWord 45 = .ok (.iconst 0, 1) := by decide +kernel
theorem dX13_isWord_46 : decode cX13_isWord 46 = .ok (.ireturn, 1) := by decide +kernel
theorem dX13_expect_0 : decode cX13_expect 0 = .ok (.aload_n 0, 1) := by decide +kernel
theorem dX13_expect_1 : decode cX13_expect 1 = .ok (.iload_n 1, 1) := by decide +kernel
theorem dX13_expect_2 : decode cX13_expect 2 = .ok (.invokevirtual 178, 3) := by decide +kernel
theorem dX13_expect_5 : decode cX13_expect 5 = .ok (.ifCond .eq 16, 3) := by decide +kernel
theorem dX13_expect_8 : decode cX13_expect 8 = .ok (.aload_n 0, 1) := by decide +kernel
theorem dX13_expect_9 : decode cX13_expect 9 = .ok (.dup, 1) := by decide +kernel
theorem dX13_expect_10 : decode cX13_expect 10 = .ok (.getfield 171, 3) := by decide +kernel
theorem dX13_expect_13 : decode cX13_expect 13 = .ok (.iconst 1, 1) := by decide +kernel
theorem dX13_expect_14 : decode cX13_expect 14 = .ok (.iadd, 1) := by decide +kernel
theorem dX13_expect_15 : decode cX13_expect 15 = .ok (.putfield 171, 3) := by decide +kernel
theorem dX13_expect_18 : decode cX13_expect 18 = .ok (.goto 8, 3) := by decide +kernel
theorem dX13_expect_21 : decode cX13_expect 21 = .ok (.aload_n 0, 1) := by decide +kernel
theorem dX13_expect_22 : decode cX13_expect 22 = .ok (.iconst 1, 1) := by decide +kernel
theorem dX13_expect_23 : decode cX13_expect 23 = .ok (.putfield 181, 3) := by decide +kernel
theorem dX13_expect_26 : decode cX13_expect 26 = .ok (.return_, 1) := by decide +kernel
theorem dX13_readName_0 : decode cX13_readName 0 = .ok (.aload_n 0, 1) := by decide +kernel
theorem dX13_readName_1 : decode cX13_readName 1 = .ok (.getfield 171, 3) := by decide +kernel
theorem dX13_readName_4 : decode cX13_readName 4 = .ok (.aload_n 0, 1) := by decide +kernel
theorem dX13_readName_5 : decode cX13_readName 5 = .ok (.getfield 140, 3) := by decide +kernel
theorem dX13_readName_8 : decode cX13_readName 8 = .ok (.if_icmp .ge 43, 3) := by decide +kernel
theorem dX13_readName_11 : decode cX13_readName 11 = .ok (.aload_n 0, 1) := by decide +kernel
theorem dX13_readName_12 : decode cX13_readName 12 = .ok (.getfield 71, 3) := by decide +kernel
theorem dX13_readName_15 : decode cX13_readName 15 = .ok (.aload_n 0, 1) := by decide +kernel
theorem dX13_readName_16 : decode cX13_readName 16 = .ok (.getfield 171, 3) := by decide +kernel
theorem dX13_readName_19 : decode cX13_readName 19 = .ok (.iaload, 1) := by decide +kernel
theorem dX13_readName_20 : decode cX13_readName 20 = .ok (.iconst 1, 1) := by decide +kernel
theorem dX13_readName_21 : decode cX13_readName 21 = .ok (.if_icmp .ne 30, 3) := by decide +kernel
theorem dX13_readName_24 : decode cX13_readName 24 = .ok (.aload_n 0, 1) := by decide +kernel
theorem dX13_readName_25 : decode cX13_readName 25 = .ok (.ldc 184, 2) := by decide +kernel
theorem dX13_readName_27 : decode cX13_readName 27 = .ok (.invokevirtual 186, 3) := by decide +kernel
theorem dX13_readName_30 : decode cX13_readName 30 = .ok (.ifCond .ne 21, 3) := by decide +kernel
theorem dX13_readName_33 : decode cX13_readName 33 = .ok (.aload_n 0, 1) := by decide +kernel
theorem dX13_readName_34 : decode cX13_readName 34 = .ok (.ldc 190, 2) := by decide +kernel
theorem dX13_readName_36 : decode cX13_readName 36 = .ok (.invokevirtual 186, 3) := by decide +kernel
theorem dX13_readName_39 : decode cX13_readName 39 = .ok (.ifCond .ne 12, 3) := by decide +kernel
theorem dX13_readName_42 : decode cX13_readName 42 = .ok (.aload_n 0, 1) := by decide +kernel
theorem dX13_readName_43 : decode cX13_readName 43 = .ok (.ldc 192, 2) := by decide +kernel
theorem dX13_readName_45 : decode cX13_readName 45 = .ok (.invokevirtual 186, 3) := by decide +kernel
theorem dX13_readName_48 : decode cX13_readName 48 = .ok (.ifCond .eq 10, 3) := by decide +kernel
theorem dX13_readName_51 : decode cX13_readName 51 = .ok (.aload_n 0, 1) := by decide +kernel
theorem dX13_readName_52 : decode cX13_readName 52 = .ok (.iconst 1, 1) := by decide +kernel
theorem dX13_readName_53 : decode cX13_readName 53 = .ok (.putfield 181, 3) := by decide +kernel
theorem dX13_readName_56 : decode cX13_readName 56 = .ok (.iconst 0, 1) := by decide +kernel
theorem dX13_readName_57 : decode cX13_readName 57 = .ok (.ireturn, 1) := by decide +kernel
theorem dX13_readName_58 : decode cX13_readName 58 = .ok (.aload_n 0, 1) := by decide +kernel
theorem dX13_readName_59 : decode cX13_readName 59 = .ok (.dup, 1) := by decide +kernel
theorem dX13_readName_60 : decode cX13_readName 60 = .ok (.getfield 171, 3) := by decide +kernel
theorem dX13_readName_63 : decode cX13_readName 63 = .ok (.iconst 1, 1) := by decide +kernel
theorem dX13_readName_64 : decode cX13_readName 64 = .ok (.iadd, 1) := by decide +kernel
theorem dX13_readName_65 : decode cX13_readName 65 = .ok (.putfield 171, 3) := by decide +kernel
theorem dX13_readName_68 : decode cX13_readName 68 = .ok (.aload_n 0, 1) := by decide +kernel
theorem dX13_readName_69 : decode cX13_readName 69 = .ok (.getfield 74, 3) := by decide +kernel
theorem dX13_readName_72 : decode cX13_readName 72 = .ok (.aload_n 0, 1) := by decide +kernel
theorem dX13_readName_73 : decode cX13_readName 73 = .ok (.getfield 171, 3) := by decide +kernel
theorem dX13_readName_76 : decode cX13_readName 76 = .ok (.iconst 1, 1) := by decide +kernel
theorem dX13_readName_77 : decode cX13_readName 77 = .ok (.isub, 1) := by decide +kernel
theorem dX13_readName_78 : decode cX13_readName 78 = .ok (.iaload, 1) := by decide +kernel
theorem dX13_readName_79 : decode cX13_readName 79 = .ok (.ireturn, 1) := by decide +kernel
theorem dX13_readNumber_0 : decode cX13_readNumber 0 = .ok (.aload_n 0, 1) := by decide +kernel
theorem dX13_readNumber_1 : decode cX13_readNumber 1 = .ok (.getfield 171, 3) := by decide +kernel
theorem dX13_readNumber_4 : decode cX13_readNumber 4 = .ok (.aload_n 0, 1) := by decide +kernel
theorem dX13_readNumber_5 : decode cX13_readNumber 5 = .ok (.getfield 140, 3) := by decide +kernel
theorem dX13_readNumber_8 : decode cX13_readNumber 8 = .ok (.if_icmp .ge 29, 3) := by decide +kernel
theorem dX13_readNumber_11 : decode cX13_readNumber 11 = .ok (.aload_n 0, 1) := by decide +kernel
theorem dX13_readNumber_12 : decode cX13_readNumber 12 = .ok (.getfield 71, 3) := by decide +kernel
theorem dX13_readNumber_15 : decode cX13_readNumber 15 = .ok (.aload_n 0, 1) := by decide +kernel
theorem dX13_readNumber_16 : decode cX13_readNumber 16 = .ok (.getfield 171, 3) := by decide +kernel
theorem dX13_readNumber_19 : decode cX13_readNumber 19 = .ok (.iaload, 1) := by decide +kernel
theorem dX13_readNumber_20 : decode cX13_readNumber 20 = .ok (.iconst 2, 1) := by decide +kernel
theorem dX13_readNumber_21 : decode cX13_readNumber 21 = .ok (.if_icmp .ne 16, 3) := by decide +kernel
theorem dX13_readNumber_24 : decode cX13_readNumber 24 = .ok (.aload_n 0, 1) := by decide +kernel
theorem dX13_readNumber_25 : decode cX13_readNumber 25 = .ok (.getfield 74, 3) := by decide +kernel
theorem dX13_readNumber_28 : decode cX13_readNumber 28 = .ok (.aload_n 0, 1) := by decide +kernel
theorem dX13_readNumber_29 : decode cX13_readNumber 29 = .ok (.getfield 171, 3) := by decide +kernel
theorem dX13_readNumber_32 : decode cX13_readNumber 32 = .ok (.iaload, 1) := by decide +kernel
theorem dX13_readNumber_33 : decode cX13_readNumber 33 = .ok (.iconst 3, 1) := by decide +kernel
theorem dX13_readNumber_34 : decode cX13_readNumber 34 = .ok (.if_icmp .le 10, 3) := by decide +kernel
theorem dX13_readNumber_37 : decode cX13_readNumber 37 = .ok (.aload_n 0, 1) := by decide +kernel
theorem dX13_readNumber_38 : decode cX13_readNumber 38 = .ok (.iconst 1, 1) := by decide +kernel
theorem dX13_readNumber_39 : decode cX13_readNumber 39 = .ok (.putfield 181, 3) := by decide +kernel
theorem dX13_readNumber_42 : decode cX13_readNumber 42 = .ok (.iconst 0, 1) := by decide +kernel
theorem dX13_readNumber_43 : decode cX13_readNumber 43 = .ok (.ireturn, 1) := by decide +kernel
theorem dX13_readNumber_44 : decode cX13_readNumber 44 = .ok (.aload_n 0, 1) := by decide +kernel
theorem dX13_readNumber_45 : decode cX13_readNumber 45 = .ok (.dup, 1) := by decide +kernel
theorem dX13_readNumber_46 : decode cX13_readNumber 46 = .ok (.getfield 171, 3) := by decide +kernel
theorem dX13_readNumber_49 : decode cX13_readNumber 49 = .ok (.iconst 1, 1) := by decide +kernel
theorem dX13_readNumber_50 : decode cX13_readNumber 50 = .ok (.iadd, 1) := by decide +kernel
theorem dX13_readNumber_51 : decode cX13_readNumber 51 = .ok (.putfield 171, 3) := by decide +kernel
theorem dX13_readNumber_54 : decode cX13_readNumber 54 = .ok (.aload_n 0, 1) := by decide +kernel
theorem dX13_readNumber_55 : decode cX13_readNumber 55 = .ok (.getfield 74, 3) := by decide +kernel
theorem dX13_readNumber_58 : decode cX13_readNumber 58 = .ok (.aload_n 0, 1) := by decide +kernel
theorem dX13_readNumber_59 : decode cX13_readNumber 59 = .ok (.getfield 171, 3) := by decide +kernel
theorem dX13_readNumber_62 : decode cX13_readNumber 62 = .ok (.iconst 1, 1) := by decide +kernel
theorem dX13_readNumber_63 : decode cX13_readNumber 63 = .ok (.isub, 1) := by decide +kernel
theorem dX13_readNumber_64 : decode cX13_readNumber 64 = .ok (.iaload, 1) := by decide +kernel
theorem dX13_readNumber_65 : decode cX13_readNumber 65 = .ok (.ireturn, 1) := by decide +kernel
theorem dX13_fails_0 : decode cX13_fails 0 = .ok (.aload_n 0, 1) := by decide +kernel
theorem dX13_fails_1 : decode cX13_fails 1 = .ok (.getfield 221, 3) := by decide +kernel
theorem dX13_fails_4 : decode cX13_fails 4 = .ok (.ifCond .ne 8, 3) := by decide +kernel
theorem dX13_fails_7 : decode cX13_fails 7 = .ok (.aload_n 0, 1) := by decide +kernel
theorem dX13_fails_8 : decode cX13_fails 8 = .ok (.iload_n 1, 1) := by decide +kernel
theorem dX13_fails_9 : decode cX13_fails 9 = .ok (.putfield 221, 3) := by decide +kernel
theorem dX13_fails_12 : decode cX13_fails 12 = .ok (.return_, 1) := by decide +kernel
theorem dX13_symbolOf_0 : decode cX13_symbolOf 0 = .ok (.iconst 0, 1) := by decide +kernel
theorem dX13_symbolOf_1 : decode cX13_symbolOf 1 = .ok (.istore_n 2, 1) := by decide +kernel
theorem dX13_symbolOf_2 : decode cX13_symbolOf 2 = .ok (.iload_n 2, 1) := by decide +kernel
theorem dX13_symbolOf_3 : decode cX13_symbolOf 3 = .ok (.aload_n 0, 1) := by decide +kernel
theorem dX13_symbolOf_4 : decode cX13_symbolOf 4 = .ok (.getfield 109, 3) := by decide +kernel
theorem dX13_symbolOf_7 : decode cX13_symbolOf 7 = .ok (.if_icmp .ge 21, 3) := by decide +kernel
theorem dX13_symbolOf_10 : decode cX13_symbolOf 10 = .ok (.aload_n 0, 1) := by decide +kernel
theorem dX13_symbolOf_11 : decode cX13_symbolOf 11 = .ok (.getfield 37, 3) := by decide +kernel
theorem dX13_symbolOf_14 : decode cX13_symbolOf 14 = .ok (.iload_n 2, 1) := by decide +kernel
theorem dX13_symbolOf_15 : decode cX13_symbolOf 15 = .ok (.iaload, 1) := by decide +kernel
theorem dX13_symbolOf_16 : decode cX13_symbolOf 16 = .ok (.iload_n 1, 1) := by decide +kernel
theorem dX13_symbolOf_17 : decode cX13_symbolOf 17 = .ok (.if_icmp .ne 5, 3) := by decide +kernel
theorem dX13_symbolOf_20 : decode cX13_symbolOf 20 = .ok (.iload_n 2, 1) := by decide +kernel
theorem dX13_symbolOf_21 : decode cX13_symbolOf 21 = .ok (.ireturn, 1) := by decide +kernel
theorem dX13_symbolOf_22 : decode cX13_symbolOf 22 = .ok (.iinc 2 1, 3) := by decide +kernel
theorem dX13_symbolOf_25 : decode cX13_symbolOf 25 = .ok (.goto (-23), 3) := by decide +kernel
theorem dX13_symbolOf_28 : decode cX13_symbolOf 28 = .ok (.iconst (-1), 1) := by decide +kernel
theorem dX13_symbolOf_29 : decode cX13_symbolOf 29 = .ok (.ireturn, 1) := by decide +kernel
theorem dX13_factOf_0 : decode cX13_factOf 0 = .ok (.iconst 0, 1) := by decide +kernel
theorem dX13_factOf_1 : decode cX13_factOf 1 = .ok (.istore_n 2, 1) := by decide +kernel
theorem dX13_factOf_2 : decode cX13_factOf 2 = .ok (.iload_n 2, 1) := by decide +kernel
theorem dX13_factOf_3 : decode cX13_factOf 3 = .ok (.aload_n 0, 1) := by decide +kernel
theorem dX13_factOf_4 : decode cX13_factOf 4 = .ok (.getfield 112, 3) := by decide +kernel
theorem dX13_factOf_7 : decode cX13_factOf 7 = .ok (.if_icmp .ge 21, 3) := by decide +kernel
theorem dX13_factOf_10 : decode cX13_factOf 10 = .ok (.aload_n 0, 1) := by decide +kernel
theorem dX13_factOf_11 : decode cX13_factOf 11 = .ok (.getfield 47, 3) := by decide +kernel
theorem dX13_factOf_14 : decode cX13_factOf 14 = .ok (.iload_n 2, 1) := by decide +kernel
theorem dX13_factOf_15 : decode cX13_factOf 15 = .ok (.iaload, 1) := by decide +kernel
theorem dX13_factOf_16 : decode cX13_factOf 16 = .ok (.iload_n 1, 1) := by decide +kernel
theorem dX13_factOf_17 : decode cX13_factOf 17 = .ok (.if_icmp .ne 5, 3) := by decide +kernel
theorem dX13_factOf_20 : decode cX13_factOf 20 = .ok (.iload_n 2, 1) := by decide +kernel
theorem dX13_factOf_21 : decode cX13_factOf 21 = .ok (.ireturn, 1) := by decide +kernel
theorem dX13_factOf_22 : decode cX13_factOf 22 = .ok (.iinc 2 1, 3) := by decide +kernel
theorem dX13_factOf_25 : decode cX13_factOf 25 = .ok (.goto (-23), 3) := by decide +kernel
theorem dX13_factOf_28 : decode cX13_factOf 28 = .ok (.iconst (-1), 1) := by decide +kernel
theorem dX13_factOf_29 : decode cX13_factOf 29 = .ok (.ireturn, 1) := by decide +kernel
theorem dX13_isVariable_0 : decode cX13_isVariable 0 = .ok (.iconst 0, 1) := by decide +kernel
theorem dX13_isVariable_1 : decode cX13_isVariable 1 = .ok (.istore_n 2, 1) := by decide +kernel
theorem dX13_isVariable_2 : decode cX13_isVariable 2 = .ok (.aload_n 0, 1) := by decide +kernel
theorem dX13_isVariable_3 : decode cX13_isVariable 3 = .ok (.getfield 119, 3) := by decide +kernel
theorem dX13_isVariable_6 : decode cX13_isVariable 6 = .ok (.ifCond .le 31, 3) := by decide +kernel
theorem dX13_isVariable_9 : decode cX13_isVariable 9 = .ok (.iload_n 2, 1) := by decide +kernel
theorem dX13_isVariable_10 : decode cX13_isVariable 10 = .ok (.aload_n 0, 1) := by decide +kernel
theorem dX13_isVariable_11 : decode cX13_isVariable 11 = .ok (.getfield 56, 3) := by decide +kernel
theorem dX13_isVariable_14 : decode cX13_isVariable 14 = .ok (.iconst 0, 1) := by decide +kernel
theorem dX13_isVariable_15 : decode cX13_isVariable 15 = .ok (.iaload, 1) := by decide +kernel
theorem dX13_isVariable_16 : decode cX13_isVariable 16 = .ok (.if_icmp .ge 21, 3) := by decide +kernel
theorem dX13_isVariable_19 : decode cX13_isVariable 19 = .ok (.aload_n 0, 1) := by decide +kernel
theorem dX13_isVariable_20 : decode cX13_isVariable 20 = .ok (.getfield 59, 3) := by decide +kernel
theorem dX13_isVariable_23 : decode cX13_isVariable 23 = .ok (.iload_n 2, 1) := by decide +kernel
theorem dX13_isVariable_24 : decode cX13_isVariable 24 = .ok (.iaload, 1) := by decide +kernel
theorem dX13_isVariable_25 : decode cX13_isVariable 25 = .ok (.iload_n 1, 1) := by decide +kernel
theorem dX13_isVariable_26 : decode cX13_isVariable 26 = .ok (.if_icmp .ne 5, 3) := by decide +kernel
theorem dX13_isVariable_29 : decode cX13_isVariable 29 = .ok (.iconst 1, 1) := by decide +kernel
theorem dX13_isVariable_30 : decode cX13_isVariable 30 = .ok (.ireturn, 1) := by decide +kernel
theorem dX13_isVariable_31 : decode cX13_isVariable 31 = .ok (.iinc 2 1, 3) := by decide +kernel
theorem dX13_isVariable_34 : decode cX13_isVariable 34 = .ok (.goto (-32), 3) := by decide +kernel
theorem dX13_isVariable_37 : decode cX13_isVariable 37 = .ok (.iconst 0, 1) := by decide +kernel
theorem dX13_isVariable_38 : decode cX13_isVariable 38 = .ok (.ireturn, 1) := by decide +kernel
theorem dX13_hypOf_0 : decode cX13_hypOf 0 = .ok (.iconst 0, 1) := by decide +kernel
theorem dX13_hypOf_1 : decode cX13_hypOf 1 = .ok (.istore_n 2, 1) := by decide +kernel
theorem dX13_hypOf_2 : decode cX13_hypOf 2 = .ok (.aload_n 0, 1) := by decide +kernel
theorem dX13_hypOf_3 : decode cX13_hypOf 3 = .ok (.getfield 119, 3) := by decide +kernel
theorem dX13_hypOf_6 : decode cX13_hypOf 6 = .ok (.ifCond .le 31, 3) := by decide +kernel
theorem dX13_hypOf_9 : decode cX13_hypOf 9 = .ok (.iload_n 2, 1) := by decide +kernel
theorem dX13_hypOf_10 : decode cX13_hypOf 10 = .ok (.aload_n 0, 1) := by decide +kernel
theorem dX13_hypOf_11 : decode cX13_hypOf 11 = .ok (.getfield 62, 3) := by decide +kernel
theorem dX13_hypOf_14 : decode cX13_hypOf 14 = .ok (.iconst 0, 1) := by decide +kernel
theorem dX13_hypOf_15 : decode cX13_hypOf 15 = .ok (.iaload, 1) := by decide +kernel
theorem dX13_hypOf_16 : decode cX13_hypOf 16 = .ok (.if_icmp .ge 21, 3) := by decide +kernel
theorem dX13_hypOf_19 : decode cX13_hypOf 19 = .ok (.aload_n 0, 1) := by decide +kernel
theorem dX13_hypOf_20 : decode cX13_hypOf 20 = .ok (.getfield 65, 3) := by decide +kernel
theorem dX13_hypOf_23 : decode cX13_hypOf 23 = .ok (.iload_n 2, 1) := by decide +kernel
theorem dX13_hypOf_24 : decode cX13_hypOf 24 = .ok (.iaload, 1) := by decide +kernel
theorem dX13_hypOf_25 : decode cX13_hypOf 25 = .ok (.iload_n 1, 1) := by decide +kernel
theorem dX13_hypOf_26 : decode cX13_hypOf 26 = .ok (.if_icmp .ne 5, 3) := by decide +kernel
theorem dX13_hypOf_29 : decode cX13_hypOf 29 = .ok (.iload_n 2, 1) := by decide +kernel
theorem dX13_hypOf_30 : decode cX13_hypOf 30 = .ok (.ireturn, 1) := by decide +kernel
theorem dX13_hypOf_31 : decode cX13_hypOf 31 = .ok (.iinc 2 1, 3) := by decide +kernel
theorem dX13_hypOf_34 : decode cX13_hypOf 34 = .ok (.goto (-32), 3) := by decide +kernel
theorem dX13_hypOf_37 : decode cX13_hypOf 37 = .ok (.iconst (-1), 1) := by decide +kernel
theorem dX13_hypOf_38 : decode cX13_hypOf 38 = .ok (.ireturn, 1) := by decide +kernel
theorem dX13_checkNew_0 : decode cX13_checkNew 0 = .ok (.aload_n 0, 1) := by decide +kernel
theorem dX13_checkNew_1 : decode cX13_checkNew 1 = .ok (.iload_n 1, 1) := by decide +kernel
theorem dX13_checkNew_2 : decode cX13_checkNew 2 = .ok (.invokevirtual 224, 3) := by decide +kernel
theorem dX13_checkNew_5 : decode cX13_checkNew 5 = .ok (.ifCond .ge 27, 3) := by decide +kernel
theorem dX13_checkNew_8 : decode cX13_checkNew 8 = .ok (.aload_n 0, 1) := by decide +kernel
theorem dX13_checkNew_9 : decode cX13_checkNew 9 = .ok (.iload_n 1, 1) := by decide +kernel
theorem dX13_checkNew_10 : decode cX13_checkNew 10 = .ok (.invokevirtual 227, 3) := by decide +kernel
theorem dX13_checkNew_13 : decode cX13_checkNew 13 = .ok (.ifCond .ge 19, 3) := by decide +kernel
theorem dX13_checkNew_16 : decode cX13_checkNew 16 = .ok (.aload_n 0, 1) := by decide +kernel
theorem dX13_checkNew_17 : decode cX13_checkNew 17 = .ok (.iload_n 1, 1) := by decide +kernel
theorem dX13_checkNew_18 : decode cX13_checkNew 18 = .ok (.invokevirtual 230, 3) := by decide +kernel
theorem dX13_checkNew_21 : decode cX13_checkNew 21 = .ok (.ifCond .ne 11, 3) := by decide +kernel
theorem dX13_checkNew_24 : decode cX13_checkNew 24 = .ok (.aload_n 0, 1) := by decide +kernel
theorem dX13_checkNew_25 : decode cX13_checkNew 25 = .ok (.iload_n 1, 1) := by decide +kernel
theorem dX13_checkNew_26 : decode cX13_checkNew 26 = .ok (.invokevirtual 233, 3) := by decide +kernel
theorem dX13_checkNew_29 : decode cX13_checkNew 29 = .ok (.ifCond .lt 9, 3) := by decide +kernel
theorem dX13_checkNew_32 : decode cX13_checkNew 32 = .ok (.aload_n 0, 1) := by decide +kernel
theorem dX13_checkNew_33 : decode cX13_checkNew 33 = .ok (.bipush 6, 2) := by decide +kernel
theorem dX13_checkNew_35 : decode cX13_checkNew 35 = .ok (.invokevirtual 236, 3) := by decide +kernel
theorem dX13_checkNew_38 : decode cX13_checkNew 38 = .ok (.return_, 1) := by decide +kernel
theorem dX13_formulaOf_0 : decode cX13_formulaOf 0 = .ok (.aload_n 0, 1) := by decide +kernel
theorem dX13_formulaOf_1 : decode cX13_formulaOf 1 = .ok (.iload_n 1, 1) := by decide +kernel
theorem dX13_formulaOf_2 : decode cX13_formulaOf 2 = .ok (.invokevirtual 233, 3) := by decide +kernel
theorem dX13_formulaOf_5 : decode cX13_formulaOf 5 = .ok (.istore_n 2, 1) := by decide +kernel
theorem dX13_formulaOf_6 : decode cX13_formulaOf 6 = .ok (.iload_n 2, 1) := by decide +kernel
theorem dX13_formulaOf_7 : decode cX13_formulaOf 7 = .ok (.ifCond .lt 10, 3) := by decide +kernel
theorem dX13_formulaOf_10 : decode cX13_formulaOf 10 = .ok (.aload_n 0, 1) := by decide +kernel
theorem dX13_formulaOf_11 : decode cX13_formulaOf 11 = .ok (.getfield 68, 3) := by decide +kernel
theorem dX13_formulaOf_14 : decode cX13_formulaOf 14 = .ok (.iload_n 2, 1) := by decide +kernel
theorem dX13_formulaOf_15 : decode cX13_formulaOf 15 = .ok (.iaload, 1) := by decide +kernel
theorem dX13_formulaOf_16 : decode cX13_formulaOf 16 = .ok (.ireturn, 1) := by decide +kernel
theorem dX13_formulaOf_17 : decode cX13_formulaOf 17 = .ok (.aload_n 0, 1) := by decide +kernel
theorem dX13_formulaOf_18 : decode cX13_formulaOf 18 = .ok (.iload_n 1, 1) := by decide +kernel
theorem dX13_formulaOf_19 : decode cX13_formulaOf 19 = .ok (.invokevirtual 227, 3) := by decide +kernel
theorem dX13_formulaOf_22 : decode cX13_formulaOf 22 = .ok (.istore_n 3, 1) := by decide +kernel
theorem dX13_formulaOf_23 : decode cX13_formulaOf 23 = .ok (.iload_n 3, 1) := by decide +kernel
theorem dX13_formulaOf_24 : decode cX13_formulaOf 24 = .ok (.ifCond .ge 8, 3) := by decide +kernel
theorem dX13_formulaOf_27 : decode cX13_formulaOf 27 = .ok (.aload_n 0, 1) := by decide +kernel
theorem dX13_formulaOf_28 : decode cX13_formulaOf 28 = .ok (.iconst 5, 1) := by decide +kernel
theorem dX13_formulaOf_29 : decode cX13_formulaOf 29 = .ok (.invokevirtual 236, 3) := by decide +kernel
theorem dX13_formulaOf_32 : decode cX13_formulaOf 32 = .ok (.iload_n 3, 1) := by decide +kernel
theorem dX13_formulaOf_33 : decode cX13_formulaOf 33 = .ok (.ifCond .ge 7, 3) := by decide +kernel
theorem dX13_formulaOf_36 : decode cX13_formulaOf 36 = .ok (.iconst 0, 1) := by decide +kernel
theorem dX13_formulaOf_37 : decode cX13_formulaOf 37 = .ok (.goto 9, 3) := by decide +kernel
theorem dX13_formulaOf_40 : decode cX13_formulaOf 40 = .ok (.aload_n 0, 1) := by decide +kernel
theorem dX13_formulaOf_41 : decode cX13_formulaOf 41 = .ok (.getfield 50, 3) := by decide +kernel
theorem dX13_formulaOf_44 : decode cX13_formulaOf 44 = .ok (.iload_n 3, 1) := by decide +kernel
theorem dX13_formulaOf_45 : decode cX13_formulaOf 45 = .ok (.iaload, 1) := by decide +kernel
theorem dX13_formulaOf_46 : decode cX13_formulaOf 46 = .ok (.ireturn, 1) := by decide +kernel
theorem dX13_addFact_0 : decode cX13_addFact 0 = .ok (.aload_n 0, 1) := by decide +kernel
theorem dX13_addFact_1 : decode cX13_addFact 1 = .ok (.getfield 47, 3) := by decide +kernel
theorem dX13_addFact_4 : decode cX13_addFact 4 = .ok (.aload_n 0, 1) := by decide +kernel
theorem dX13_addFact_5 : decode cX13_addFact 5 = .ok (.getfield 112, 3) := by decide +kernel
theorem dX13_addFact_8 : decode cX13_addFact 8 = .ok (.iload_n 1, 1) := by decide +kernel
theorem dX13_addFact_9 : decode cX13_addFact 9 = .ok (.iastore, 1) := by decide +kernel
theorem dX13_addFact_10 : decode cX13_addFact 10 = .ok (.aload_n 0, 1) := by decide +kernel
theorem dX13_addFact_11 : decode cX13_addFact 11 = .ok (.getfield 50, 3) := by decide +kernel
theorem dX13_addFact_14 : decode cX13_addFact 14 = .ok (.aload_n 0, 1) := by decide +kernel
theorem dX13_addFact_15 : decode cX13_addFact 15 = .ok (.getfield 112, 3) := by decide +kernel
theorem dX13_addFact_18 : decode cX13_addFact 18 = .ok (.iload_n 2, 1) := by decide +kernel
theorem dX13_addFact_19 : decode cX13_addFact 19 = .ok (.iastore, 1) := by decide +kernel
theorem dX13_addFact_20 : decode cX13_addFact 20 = .ok (.aload_n 0, 1) := by decide +kernel
theorem dX13_addFact_21 : decode cX13_addFact 21 = .ok (.dup, 1) := by decide +kernel
theorem dX13_addFact_22 : decode cX13_addFact 22 = .ok (.getfield 112, 3) := by decide +kernel
theorem dX13_addFact_25 : decode cX13_addFact 25 = .ok (.iconst 1, 1) := by decide +kernel
theorem dX13_addFact_26 : decode cX13_addFact 26 = .ok (.iadd, 1) := by decide +kernel
theorem dX13_addFact_27 : decode cX13_addFact 27 = .ok (.putfield 112, 3) := by decide +kernel
theorem dX13_addFact_30 : decode cX13_addFact 30 = .ok (.return_, 1) := by decide +kernel
theorem dX13_close_0 : decode cX13_close 0 = .ok (.iload_n 1, 1) := by decide +kernel
theorem dX13_close_1 : decode cX13_close 1 = .ok (.iconst 4, 1) := by decide +kernel
theorem dX13_close_2 : decode cX13_close 2 = .ok (.if_icmp .ne 51, 3) := by decide +kernel
theorem dX13_close_5 : decode cX13_close 5 = .ok (.aload_n 0, 1) := by decide +kernel
theorem dX13_close_6 : decode cX13_close 6 = .ok (.getfield 119, 3) := by decide +kernel
theorem dX13_close_9 : decode cX13_close 9 = .ok (.ifCond .le 9, 3) := by decide +kernel
theorem dX13_close_12 : decode cX13_close 12 = .ok (.aload_n 0, 1) := by decide +kernel
theorem dX13_close_13 : decode cX13_close 13 = .ok (.bipush 7, 2) := by decide +kernel
theorem dX13_close_15 : decode cX13_close 15 = .ok (.invokevirtual 236, 3) := by decide +kernel
theorem dX13_close_18 : decode cX13_close 18 = .ok (.aload_n 0, 1) := by decide +kernel
theorem dX13_close_19 : decode cX13_close 19 = .ok (.getfield 112, 3) := by decide +kernel
theorem dX13_close_22 : decode cX13_close 22 = .ok (.bipush 16, 2) := by decide +kernel
theorem dX13_close_24 : decode cX13_close 24 = .ok (.if_icmp .ne 9, 3) := by decide +kernel
theorem dX13_close_27 : decode cX13_close 27 = .ok (.aload_n 0, 1) := by decide +kernel
theorem dX13_close_28 : decode cX13_close 28 = .ok (.bipush 9, 2) := by decide +kernel
theorem dX13_close_30 : decode cX13_close 30 = .ok (.invokevirtual 236, 3) := by decide +kernel
theorem dX13_close_33 : decode cX13_close 33 = .ok (.aload_n 0, 1) := by decide +kernel
theorem dX13_close_34 : decode cX13_close 34 = .ok (.getfield 221, 3) := by decide +kernel
theorem dX13_close_37 : decode cX13_close 37 = .ok (.ifCond .le 4, 3) := by decide +kernel
theorem dX13_close_40 : decode cX13_close 40 = .ok (.return_, 1) := by decide +kernel
theorem dX13_close_41 : decode cX13_close 41 = .ok (.aload_n 0, 1) := by decide +kernel
theorem dX13_close_42 : decode cX13_close 42 = .ok (.aload_n 0, 1) := by decide +kernel
theorem dX13_close_43 : decode cX13_close 43 = .ok (.getfield 330, 3) := by decide +kernel
theorem dX13_close_46 : decode cX13_close 46 = .ok (.aload_n 0, 1) := by decide +kernel
theorem dX13_close_47 : decode cX13_close 47 = .ok (.getfield 333, 3) := by decide +kernel
theorem dX13_close_50 : decode cX13_close 50 = .ok (.invokevirtual 327, 3) := by decide +kernel
theorem dX13_close_53 : decode cX13_close 53 = .ok (.aload_n 0, 1) := by decide +kernel
theorem dX13_close_54 : decode cX13_close 54 = .ok (.iconst 0, 1) := by decide +kernel
theorem dX13_close_55 : decode cX13_close 55 = .ok (.putfield 115, 3) := by decide +kernel
theorem dX13_close_58 : decode cX13_close 58 = .ok (.aload_n 0, 1) := by decide +kernel
theorem dX13_close_59 : decode cX13_close 59 = .ok (.iconst 0, 1) := by decide +kernel
theorem dX13_close_60 : decode cX13_close 60 = .ok (.putfield 119, 3) := by decide +kernel
theorem dX13_close_63 : decode cX13_close 63 = .ok (.return_, 1) := by decide +kernel
theorem dX13_copyGoal_0 : decode cX13_copyGoal 0 = .ok (.aload_n 0, 1) := by decide +kernel
theorem dX13_copyGoal_1 : decode cX13_copyGoal 1 = .ok (.getfield 53, 3) := by decide +kernel
theorem dX13_copyGoal_4 : decode cX13_copyGoal 4 = .ok (.iload_n 2, 1) := by decide +kernel
theorem dX13_copyGoal_5 : decode cX13_copyGoal 5 = .ok (.aload_n 0, 1) := by decide +kernel
theorem dX13_copyGoal_6 : decode cX13_copyGoal 6 = .ok (.getfield 53, 3) := by decide +kernel
theorem dX13_copyGoal_9 : decode cX13_copyGoal 9 = .ok (.iload_n 1, 1) := by decide +kernel
theorem dX13_copyGoal_10 : decode cX13_copyGoal 10 = .ok (.iaload, 1) := by decide +kernel
theorem dX13_copyGoal_11 : decode cX13_copyGoal 11 = .ok (.iastore, 1) := by decide +kernel
theorem dX13_copyGoal_12 : decode cX13_copyGoal 12 = .ok (.aload_n 0, 1) := by decide +kernel
theorem dX13_copyGoal_13 : decode cX13_copyGoal 13 = .ok (.getfield 56, 3) := by decide +kernel
theorem dX13_copyGoal_16 : decode cX13_copyGoal 16 = .ok (.iload_n 2, 1) := by decide +kernel
theorem dX13_copyGoal_17 : decode cX13_copyGoal 17 = .ok (.aload_n 0, 1) := by decide +kernel
theorem dX13_copyGoal_18 : decode cX13_copyGoal 18 = .ok (.getfield 56, 3) := by decide +kernel
theorem dX13_copyGoal_21 : decode cX13_copyGoal 21 = .ok (.iload_n 1, 1) := by decide +kernel
theorem dX13_copyGoal_22 : decode cX13_copyGoal 22 = .ok (.iaload, 1) := by decide +kernel
theorem dX13_copyGoal_23 : decode cX13_copyGoal 23 = .ok (.iastore, 1) := by decide +kernel
theorem dX13_copyGoal_24 : decode cX13_copyGoal 24 = .ok (.aload_n 0, 1) := by decide +kernel
theorem dX13_copyGoal_25 : decode cX13_copyGoal 25 = .ok (.getfield 62, 3) := by decide +kernel
theorem dX13_copyGoal_28 : decode cX13_copyGoal 28 = .ok (.iload_n 2, 1) := by decide +kernel
theorem dX13_copyGoal_29 : decode cX13_copyGoal 29 = .ok (.aload_n 0, 1) := by decide +kernel
theorem dX13_copyGoal_30 : decode cX13_copyGoal 30 = .ok (.getfield 62, 3) := by decide +kernel
theorem dX13_copyGoal_33 : decode cX13_copyGoal 33 = .ok (.iload_n 1, 1) := by decide +kernel
theorem dX13_copyGoal_34 : decode cX13_copyGoal 34 = .ok (.iaload, 1) := by decide +kernel
theorem dX13_copyGoal_35 : decode cX13_copyGoal 35 = .ok (.iastore, 1) := by decide +kernel
theorem dX13_copyGoal_36 : decode cX13_copyGoal 36 = .ok (.iconst 0, 1) := by decide +kernel
theorem dX13_copyGoal_37 : decode cX13_copyGoal 37 = .ok (.istore_n 3, 1) := by decide +kernel
theorem dX13_copyGoal_38 : decode cX13_copyGoal 38 = .ok (.iload_n 3, 1) := by decide +kernel
theorem dX13_copyGoal_39 : decode cX13_copyGoal 39 = .ok (.bipush 6, 2) := by decide +kernel
theorem dX13_copyGoal_41 : decode cX13_copyGoal 41 = .ok (.if_icmp .ge 31, 3) := by decide +kernel
theorem dX13_copyGoal_44 : decode cX13_copyGoal 44 = .ok (.aload_n 0, 1) := by decide +kernel
theorem dX13_copyGoal_45 : decode cX13_copyGoal 45 = .ok (.getfield 59, 3) := by decide +kernel
theorem dX13_copyGoal_48 : decode cX13_copyGoal 48 = .ok (.bipush 6, 2) := by decide +kernel
theorem dX13_copyGoal_50 : decode cX13_copyGoal 50 = .ok (.iload_n 2, 1) := by decide +kernel
theorem dX13_copyGoal_51 : decode cX13_copyGoal 51 = .ok (.imul, 1) := by decide +kernel
theorem dX13_copyGoal_52 : decode cX13_copyGoal 52 = .ok (.iload_n 3, 1) := by decide +kernel
theorem dX13_copyGoal_53 : decode cX13_copyGoal 53 = .ok (.iadd, 1) := by decide +kernel
theorem dX13_copyGoal_54 : decode cX13_copyGoal 54 = .ok (.aload_n 0, 1) := by decide +kernel
theorem dX13_copyGoal_55 : decode cX13_copyGoal 55 = .ok (.getfield 59, 3) := by decide +kernel
theorem dX13_copyGoal_58 : decode cX13_copyGoal 58 = .ok (.bipush 6, 2) := by decide +kernel
theorem dX13_copyGoal_60 : decode cX13_copyGoal 60 = .ok (.iload_n 1, 1) := by decide +kernel
theorem dX13_copyGoal_61 : decode cX13_copyGoal 61 = .ok (.imul, 1) := by decide +kernel
theorem dX13_copyGoal_62 : decode cX13_copyGoal 62 = .ok (.iload_n 3, 1) := by decide +kernel
theorem dX13_copyGoal_63 : decode cX13_copyGoal 63 = .ok (.iadd, 1) := by decide +kernel
theorem dX13_copyGoal_64 : decode cX13_copyGoal 64 = .ok (.iaload, 1) := by decide +kernel
theorem dX13_copyGoal_65 : decode cX13_copyGoal 65 = .ok (.iastore, 1) := by decide +kernel
theorem dX13_copyGoal_66 : decode cX13_copyGoal 66 = .ok (.iinc 3 1, 3) := by decide +kernel
theorem dX13_copyGoal_69 : decode cX13_copyGoal 69 = .ok (.goto (-31), 3) := by decide +kernel
theorem dX13_copyGoal_72 : decode cX13_copyGoal 72 = .ok (.iconst 0, 1) := by decide +kernel
theorem dX13_copyGoal_73 : decode cX13_copyGoal 73 = .ok (.istore_n 3, 1) := by decide +kernel
theorem dX13_copyGoal_74 : decode cX13_copyGoal 74 = .ok (.iload_n 3, 1) := by decide +kernel
theorem dX13_copyGoal_75 : decode cX13_copyGoal 75 = .ok (.bipush 8, 2) := by decide +kernel
theorem dX13_copyGoal_77 : decode cX13_copyGoal 77 = .ok (.if_icmp .ge 53, 3) := by decide +kernel
theorem dX13_copyGoal_80 : decode cX13_copyGoal 80 = .ok (.aload_n 0, 1) := by decide +kernel
theorem dX13_copyGoal_81 : decode cX13_copyGoal 81 = .ok (.getfield 65, 3) := by decide +kernel
theorem dX13_copyGoal_84 : decode cX13_copyGoal 84 = .ok (.bipush 8, 2) := by decide +kernel
theorem dX13_copyGoal_86 : decode cX13_copyGoal 86 = .ok (.iload_n 2, 1) := by decide +kernel
theorem dX13_copyGoal_87 : decode cX13_copyGoal 87 = .ok (.imul, 1) := by decide +kernel
theorem dX13_copyGoal_88 : decode cX13_copyGoal 88 = .ok (.iload_n 3, 1) := by decide +kernel
theorem dX13_copyGoal_89 : decode cX13_copyGoal 89 = .ok (.iadd, 1) := by decide +kernel
theorem dX13_copyGoal_90 : decode cX13_copyGoal 90 = .ok (.aload_n 0, 1) := by decide +kernel
theorem dX13_copyGoal_91 : decode cX13_copyGoal 91 = .ok (.getfield 65, 3) := by decide +kernel
theorem dX13_copyGoal_94 : decode cX13_copyGoal 94 = .ok (.bipush 8, 2) := by decide +kernel
theorem dX13_copyGoal_96 : decode cX13_copyGoal 96 = .ok (.iload_n 1, 1) := by decide +kernel
theorem dX13_copyGoal_97 : decode cX13_copyGoal 97 = .ok (.imul, 1) := by decide +kernel
theorem dX13_copyGoal_98 : decode cX13_copyGoal 98 = .ok (.iload_n 3, 1) := by decide +kernel
theorem dX13_copyGoal_99 : decode cX13_copyGoal 99 = .ok (.iadd, 1) := by decide +kernel
theorem dX13_copyGoal_100 : decode cX13_copyGoal 100 = .ok (.iaload, 1) := by decide +kernel
theorem dX13_copyGoal_101 : decode cX13_copyGoal 101 = .ok (.iastore, 1) := by decide +kernel
theorem dX13_copyGoal_102 : decode cX13_copyGoal 102 = .ok (.aload_n 0, 1) := by decide +kernel
theorem dX13_copyGoal_103 : decode cX13_copyGoal 103 = .ok (.getfield 68, 3) := by decide +kernel
theorem dX13_copyGoal_106 : decode cX13_copyGoal 106 = .ok (.bipush 8, 2) := by decide +kernel
theorem dX13_copyGoal_108 : decode cX13_copyGoal 108 = .ok (.iload_n 2, 1) := by decide +kernel
theorem dX13_copyGoal_109 : decode cX13_copyGoal 109 = .ok (.imul, 1) := by decide +kernel
theorem dX13_copyGoal_110 : decode cX13_copyGoal 110 = .ok (.iload_n 3, 1) := by decide +kernel
theorem dX13_copyGoal_111 : decode cX13_copyGoal 111 = .ok (.iadd, 1) := by decide +kernel
theorem dX13_copyGoal_112 : decode cX13_copyGoal 112 = .ok (.aload_n 0, 1) := by decide +kernel
theorem dX13_copyGoal_113 : decode cX13_copyGoal 113 = .ok (.getfield 68, 3) := by decide +kernel
theorem dX13_copyGoal_116 : decode cX13_copyGoal 116 = .ok (.bipush 8, 2) := by decide +kernel
theorem dX13_copyGoal_118 : decode cX13_copyGoal 118 = .ok (.iload_n 1, 1) := by decide +kernel
theorem dX13_copyGoal_119 : decode cX13_copyGoal 119 = .ok (.imul, 1) := by decide +kernel
theorem dX13_copyGoal_120 : decode cX13_copyGoal 120 = .ok (.iload_n 3, 1) := by decide +kernel
theorem dX13_copyGoal_121 : decode cX13_copyGoal 121 = .ok (.iadd, 1) := by decide +kernel
theorem dX13_copyGoal_122 : decode cX13_copyGoal 122 = .ok (.iaload, 1) := by decide +kernel
theorem dX13_copyGoal_123 : decode cX13_copyGoal 123 = .ok (.iastore, 1) := by decide +kernel
theorem dX13_copyGoal_124 : decode cX13_copyGoal 124 = .ok (.iinc 3 1, 3) := by decide +kernel
theorem dX13_copyGoal_127 : decode cX13_copyGoal 127 = .ok (.goto (-53), 3) := by decide +kernel
theorem dX13_copyGoal_130 : decode cX13_copyGoal 130 = .ok (.return_, 1) := by decide +kernel
theorem dX13_times_0 : decode cX13_times 0 = .ok (.aload_n 0, 1) := by decide +kernel
theorem dX13_times_1 : decode cX13_times 1 = .ok (.getfield 119, 3) := by decide +kernel
theorem dX13_times_4 : decode cX13_times 4 = .ok (.iconst 1, 1) := by decide +kernel
theorem dX13_times_5 : decode cX13_times 5 = .ok (.isub, 1) := by decide +kernel
theorem dX13_times_6 : decode cX13_times 6 = .ok (.iload_n 1, 1) := by decide +kernel
theorem dX13_times_7 : decode cX13_times 7 = .ok (.iadd, 1) := by decide +kernel
theorem dX13_times_8 : decode cX13_times 8 = .ok (.bipush 6, 2) := by decide +kernel
theorem dX13_times_10 : decode cX13_times 10 = .ok (.if_icmp .le 9, 3) := by decide +kernel
theorem dX13_times_13 : decode cX13_times 13 = .ok (.aload_n 0, 1) := by decide +kernel
theorem dX13_times_14 : decode cX13_times 14 = .ok (.bipush 9, 2) := by decide +kernel
theorem dX13_times_16 : decode cX13_times 16 = .ok (.invokevirtual 236, 3) := by decide +kernel
theorem dX13_times_19 : decode cX13_times 19 = .ok (.aload_n 0, 1) := by decide +kernel
theorem dX13_times_20 : decode cX13_times 20 = .ok (.getfield 221, 3) := by decide +kernel
theorem dX13_times_23 : decode cX13_times 23 = .ok (.ifCond .le 4, 3) := by decide +kernel
theorem dX13_times_26 : decode cX13_times 26 = .ok (.return_, 1) := by decide +kernel
theorem dX13_times_27 : decode cX13_times 27 = .ok (.iload_n 1, 1) := by decide +kernel
theorem dX13_times_28 : decode cX13_times 28 = .ok (.ifCond .ne 29, 3) := by decide +kernel
theorem dX13_times_31 : decode cX13_times 31 = .ok (.iconst 0, 1) := by decide +kernel
theorem dX13_times_32 : decode cX13_times 32 = .ok (.istore_n 2, 1) := by decide +kernel
theorem dX13_times_33 : decode cX13_times 33 = .ok (.iload_n 2, 1) := by decide +kernel
theorem dX13_times_34 : decode cX13_times 34 = .ok (.iconst 1, 1) := by decide +kernel
theorem dX13_times_35 : decode cX13_times 35 = .ok (.iadd, 1) := by decide +kernel
theorem dX13_times_36 : decode cX13_times 36 = .ok (.aload_n 0, 1) := by decide +kernel
theorem dX13_times_37 : decode cX13_times 37 = .ok (.getfield 119, 3) := by decide +kernel
theorem dX13_times_40 : decode cX13_times 40 = .ok (.if_icmp .ge 17, 3) := by decide +kernel
theorem dX13_times_43 : decode cX13_times 43 = .ok (.aload_n 0, 1) := by decide +kernel
theorem dX13_times_44 : decode cX13_times 44 = .ok (.iload_n 2, 1) := by decide +kernel
theorem dX13_times_45 : decode cX13_times 45 = .ok (.iconst 1, 1) := by decide +kernel
theorem dX13_times_46 : decode cX13_times 46 = .ok (.iadd, 1) := by decide +kernel
theorem dX13_times_47 : decode cX13_times 47 = .ok (.iload_n 2, 1) := by decide +kernel
theorem dX13_times_48 : decode cX13_times 48 = .ok (.invokevirtual 336, 3) := by decide +kernel
theorem dX13_times_51 : decode cX13_times 51 = .ok (.iinc 2 1, 3) := by decide +kernel
theorem dX13_times_54 : decode cX13_times 54 = .ok (.goto (-21), 3) := by decide +kernel
theorem dX13_times_57 : decode cX13_times 57 = .ok (.aload_n 0, 1) := by decide +kernel
theorem dX13_times_58 : decode cX13_times 58 = .ok (.getfield 119, 3) := by decide +kernel
theorem dX13_times_61 : decode cX13_times 61 = .ok (.iconst 1, 1) := by decide +kernel
theorem dX13_times_62 : decode cX13_times 62 = .ok (.isub, 1) := by decide +kernel
theorem dX13_times_63 : decode cX13_times 63 = .ok (.istore_n 2, 1) := by decide +kernel
theorem dX13_times_64 : decode cX13_times 64 = .ok (.iload_n 2, 1) := by decide +kernel
theorem dX13_times_65 : decode cX13_times 65 = .ok (.ifCond .le 23, 3) := by decide +kernel
theorem dX13_times_68 : decode cX13_times 68 = .ok (.iload_n 1, 1) := by decide +kernel
theorem dX13_times_69 : decode cX13_times 69 = .ok (.ifCond .le 19, 3) := by decide +kernel
theorem dX13_times_72 : decode cX13_times 72 = .ok (.aload_n 0, 1) := by decide +kernel
theorem dX13_times_73 : decode cX13_times 73 = .ok (.iload_n 2, 1) := by decide +kernel
theorem dX13_times_74 : decode cX13_times 74 = .ok (.iload_n 2, 1) := by decide +kernel
theorem dX13_times_75 : decode cX13_times 75 = .ok (.iload_n 1, 1) := by decide +kernel
theorem dX13_times_76 : decode cX13_times 76 = .ok (.iadd, 1) := by decide +kernel
theorem dX13_times_77 : decode cX13_times 77 = .ok (.iconst 1, 1) := by decide +kernel
theorem dX13_times_78 : decode cX13_times 78 = .ok (.isub, 1) := by decide +kernel
theorem dX13_times_79 : decode cX13_times 79 = .ok (.invokevirtual 336, 3) := by decide +kernel
theorem dX13_times_82 : decode cX13_times 82 = .ok (.iinc 2 (-1), 3) := by decide +kernel
theorem dX13_times_85 : decode cX13_times 85 = .ok (.goto (-21), 3) := by decide +kernel
theorem dX13_times_88 : decode cX13_times 88 = .ok (.iconst 1, 1) := by decide +kernel
theorem dX13_times_89 : decode cX13_times 89 = .ok (.istore_n 2, 1) := by decide +kernel
theorem dX13_times_90 : decode cX13_times 90 = .ok (.iload_n 2, 1) := by decide +kernel
theorem dX13_times_91 : decode cX13_times 91 = .ok (.iload_n 1, 1) := by decide +kernel
theorem dX13_times_92 : decode cX13_times 92 = .ok (.if_icmp .ge 15, 3) := by decide +kernel
theorem dX13_times_95 : decode cX13_times 95 = .ok (.aload_n 0, 1) := by decide +kernel
theorem dX13_times_96 : decode cX13_times 96 = .ok (.iconst 0, 1) := by decide +kernel
theorem dX13_times_97 : decode cX13_times 97 = .ok (.iload_n 2, 1) := by decide +kernel
theorem dX13_times_98 : decode cX13_times 98 = .ok (.invokevirtual 336, 3) := by decide +kernel
theorem dX13_times_101 : decode cX13_times 101 = .ok (.iinc 2 1, 3) := by decide +kernel
theorem dX13_times_104 : decode cX13_times 104 = .ok (.goto (-14), 3) := by decide +kernel
theorem dX13_times_107 : decode cX13_times 107 = .ok (.aload_n 0, 1) := by decide +kernel
theorem dX13_times_108 : decode cX13_times 108 = .ok (.dup, 1) := by decide +kernel
theorem dX13_times_109 : decode cX13_times 109 = .ok (.getfield 119, 3) := by decide +kernel
theorem dX13_times_112 : decode cX13_times 112 = .ok (.iload_n 1, 1) := by decide +kernel
theorem dX13_times_113 : decode cX13_times 113 = .ok (.iconst 1, 1) := by decide +kernel
theorem dX13_times_114 : decode cX13_times 114 = .ok (.isub, 1) := by decide +kernel
theorem dX13_times_115 : decode cX13_times 115 = .ok (.iadd, 1) := by decide +kernel
theorem dX13_times_116 : decode cX13_times 116 = .ok (.putfield 119, 3) := by decide +kernel
theorem dX13_times_119 : decode cX13_times 119 = .ok (.return_, 1) := by decide +kernel
theorem dX13_done_0 : decode cX13_done 0 = .ok (.iload_n 1, 1) := by decide +kernel
theorem dX13_done_1 : decode cX13_done 1 = .ok (.ifCond .eq 11, 3) := by decide +kernel
theorem dX13_done_4 : decode cX13_done 4 = .ok (.aload_n 0, 1) := by decide +kernel
theorem dX13_done_5 : decode cX13_done 5 = .ok (.iconst 0, 1) := by decide +kernel
theorem dX13_done_6 : decode cX13_done 6 = .ok (.invokevirtual 352, 3) := by decide +kernel
theorem dX13_done_9 : decode cX13_done 9 = .ok (.goto 9, 3) := by decide +kernel
theorem dX13_done_12 : decode cX13_done 12 = .ok (.aload_n 0, 1) := by decide +kernel
theorem dX13_done_13 : decode cX13_done 13 = .ok (.bipush 8, 2) := by decide +kernel
theorem dX13_done_15 : decode cX13_done 15 = .ok (.invokevirtual 236, 3) := by decide +kernel
theorem dX13_done_18 : decode cX13_done 18 = .ok (.return_, 1) := by decide +kernel
theorem dX13_put_0 : decode cX13_put 0 = .ok (.aload_n 0, 1) := by decide +kernel
theorem dX13_put_1 : decode cX13_put 1 = .ok (.getfield 375, 3) := by decide +kernel
theorem dX13_put_4 : decode cX13_put 4 = .ok (.ldc 89, 2) := by decide +kernel
theorem dX13_put_6 : decode cX13_put 6 = .ok (.if_icmp .ne 4, 3) := by decide +kernel
theorem dX13_put_9 : decode cX13_put 9 = .ok (.return_, 1) := by decide +kernel
theorem dX13_put_10 : decode cX13_put 10 = .ok (.aload_n 0, 1) := by decide +kernel
theorem dX13_put_11 : decode cX13_put 11 = .ok (.getfield 90, 3) := by decide +kernel
theorem dX13_put_14 : decode cX13_put 14 = .ok (.aload_n 0, 1) := by decide +kernel
theorem dX13_put_15 : decode cX13_put 15 = .ok (.getfield 375, 3) := by decide +kernel
theorem dX13_put_18 : decode cX13_put 18 = .ok (.iload_n 1, 1) := by decide +kernel
theorem dX13_put_19 : decode cX13_put 19 = .ok (.iastore, 1) := by decide +kernel
theorem dX13_put_20 : decode cX13_put 20 = .ok (.aload_n 0, 1) := by decide +kernel
theorem dX13_put_21 : decode cX13_put 21 = .ok (.dup, 1) := by decide +kernel
theorem dX13_put_22 : decode cX13_put 22 = .ok (.getfield 375, 3) := by decide +kernel
theorem dX13_put_25 : decode cX13_put 25 = .ok (.iconst 1, 1) := by decide +kernel
theorem dX13_put_26 : decode cX13_put 26 = .ok (.iadd, 1) := by decide +kernel
theorem dX13_put_27 : decode cX13_put 27 = .ok (.putfield 375, 3) := by decide +kernel
theorem dX13_put_30 : decode cX13_put 30 = .ok (.return_, 1) := by decide +kernel
theorem dX13_words_0 : decode cX13_words 0 = .ok (.iconst 0, 1) := by decide +kernel
theorem dX13_words_1 : decode cX13_words 1 = .ok (.istore_n 2, 1) := by decide +kernel
theorem dX13_words_2 : decode cX13_words 2 = .ok (.iload_n 2, 1) := by decide +kernel
theorem dX13_words_3 : decode cX13_words 3 = .ok (.aload_n 1, 1) := by decide +kernel
theorem dX13_words_4 : decode cX13_words 4 = .ok (.invokevirtual 122, 3) := by decide +kernel
theorem dX13_words_7 : decode cX13_words 7 = .ok (.if_icmp .ge 18, 3) := by decide +kernel
theorem dX13_words_10 : decode cX13_words 10 = .ok (.aload_n 0, 1) := by decide +kernel
theorem dX13_words_11 : decode cX13_words 11 = .ok (.aload_n 1, 1) := by decide +kernel
theorem dX13_words_12 : decode cX13_words 12 = .ok (.iload_n 2, 1) := by decide +kernel
theorem dX13_words_13 : decode cX13_words 13 = .ok (.invokevirtual 128, 3) := by decide +kernel
theorem dX13_words_16 : decode cX13_words 16 = .ok (.invokevirtual 378, 3) := by decide +kernel
theorem dX13_words_19 : decode cX13_words 19 = .ok (.iinc 2 1, 3) := by decide +kernel
theorem dX13_words_22 : decode cX13_words 22 = .ok (.goto (-20), 3) := by decide +kernel
theorem dX13_words_25 : decode cX13_words 25 = .ok (.return_, 1) := by decide +kernel
theorem dX13_putName_0 : decode cX13_putName 0 = .ok (.iconst 0, 1) := by decide +kernel
theorem dX13_putName_1 : decode cX13_putName 1 = .ok (.istore_n 2, 1) := by decide +kernel
theorem dX13_putName_2 : decode cX13_putName 2 = .ok (.iload_n 2, 1) := by decide +kernel
theorem dX13_putName_3 : decode cX13_putName 3 = .ok (.aload_n 0, 1) := by decide +kernel
theorem dX13_putName_4 : decode cX13_putName 4 = .ok (.getfield 34, 3) := by decide +kernel
theorem dX13_putName_7 : decode cX13_putName 7 = .ok (.iload_n 1, 1) := by decide +kernel
theorem dX13_putName_8 : decode cX13_putName 8 = .ok (.iaload, 1) := by decide +kernel
theorem dX13_putName_9 : decode cX13_putName 9 = .ok (.if_icmp .ge 26, 3) := by decide +kernel
theorem dX13_putName_12 : decode cX13_putName 12 = .ok (.aload_n 0, 1) := by decide +kernel
theorem dX13_putName_13 : decode cX13_putName 13 = .ok (.aload_n 0, 1) := by decide +kernel
theorem dX13_putName_14 : decode cX13_putName 14 = .ok (.getfield 28, 3) := by decide +kernel
theorem dX13_putName_17 : decode cX13_putName 17 = .ok (.aload_n 0, 1) := by decide +kernel
theorem dX13_putName_18 : decode cX13_putName 18 = .ok (.getfield 31, 3) := by decide +kernel
theorem dX13_putName_21 : decode cX13_putName 21 = .ok (.iload_n 1, 1) := by decide +kernel
theorem dX13_putName_22 : decode cX13_putName 22 = .ok (.iaload, 1) := by decide +kernel
theorem dX13_putName_23 : decode cX13_putName 23 = .ok (.iload_n 2, 1) := by decide +kernel
theorem dX13_putName_24 : decode cX13_putName 24 = .ok (.iadd, 1) := by decide +kernel
theorem dX13_putName_25 : decode cX13_putName 25 = .ok (.iaload, 1) := by decide +kernel
theorem dX13_putName_26 : decode cX13_putName 26 = .ok (.invokevirtual 378, 3) := by decide +kernel
theorem dX13_putName_29 : decode cX13_putName 29 = .ok (.iinc 2 1, 3) := by decide +kernel
theorem dX13_putName_32 : decode cX13_putName 32 = .ok (.goto (-30), 3) := by decide +kernel
theorem dX13_putName_35 : decode cX13_putName 35 = .ok (.return_, 1) := by decide +kernel
theorem dX13_putBound_0 : decode cX13_putBound 0 = .ok (.aload_n 0, 1) := by decide +kernel
theorem dX13_putBound_1 : decode cX13_putBound 1 = .ok (.aload_n 0, 1) := by decide +kernel
theorem dX13_putBound_2 : decode cX13_putBound 2 = .ok (.getfield 93, 3) := by decide +kernel
theorem dX13_putBound_5 : decode cX13_putBound 5 = .ok (.iload_n 1, 1) := by decide +kernel
theorem dX13_putBound_6 : decode cX13_putBound 6 = .ok (.iaload, 1) := by decide +kernel
theorem dX13_putBound_7 : decode cX13_putBound 7 = .ok (.invokevirtual 381, 3) := by decide +kernel
theorem dX13_putBound_10 : decode cX13_putBound 10 = .ok (.iconst 0, 1) := by decide +kernel
theorem dX13_putBound_11 : decode cX13_putBound 11 = .ok (.istore_n 2, 1) := by decide +kernel
theorem dX13_putBound_12 : decode cX13_putBound 12 = .ok (.iload_n 2, 1) := by decide +kernel
theorem dX13_putBound_13 : decode cX13_putBound 13 = .ok (.aload_n 0, 1) := by decide +kernel
theorem dX13_putBound_14 : decode cX13_putBound 14 = .ok (.getfield 96, 3) := by decide +kernel
theorem dX13_putBound_17 : decode cX13_putBound 17 = .ok (.iload_n 1, 1) := by decide +kernel
theorem dX13_putBound_18 : decode cX13_putBound 18 = .ok (.iaload, 1) := by decide +kernel
theorem dX13_putBound_19 : decode cX13_putBound 19 = .ok (.if_icmp .ge 15, 3) := by decide +kernel
theorem dX13_putBound_22 : decode cX13_putBound 22 = .ok (.aload_n 0, 1) := by decide +kernel
theorem dX13_putBound_23 : decode cX13_putBound 23 = .ok (.bipush 39, 2) := by decide +kernel
theorem dX13_putBound_25 : decode cX13_putBound 25 = .ok (.invokevirtual 378, 3) := by decide +kernel
theorem dX13_putBound_28 : decode cX13_putBound 28 = .ok (.iinc 2 1, 3) := by decide +kernel
theorem dX13_putBound_31 : decode cX13_putBound 31 = .ok (.goto (-19), 3) := by decide +kernel
theorem dX13_putBound_34 : decode cX13_putBound 34 = .ok (.return_, 1) := by decide +kernel
theorem dX13_areAlike_0 : decode cX13_areAlike 0 = .ok (.aload_n 0, 1) := by decide +kernel
theorem dX13_areAlike_1 : decode cX13_areAlike 1 = .ok (.getfield 34, 3) := by decide +kernel
theorem dX13_areAlike_4 : decode cX13_areAlike 4 = .ok (.iload_n 1, 1) := by decide +kernel
theorem dX13_areAlike_5 : decode cX13_areAlike 5 = .ok (.iaload, 1) := by decide +kernel
theorem dX13_areAlike_6 : decode cX13_areAlike 6 = .ok (.iload_n 2, 1) := by decide +kernel
theorem dX13_areAlike_7 : decode cX13_areAlike 7 = .ok (.iadd, 1) := by decide +kernel
theorem dX13_areAlike_8 : decode cX13_areAlike 8 = .ok (.istore 5, 2) := by decide +kernel
theorem dX13_areAlike_10 : decode cX13_areAlike 10 = .ok (.iload 5, 2) := by decide +kernel
theorem dX13_areAlike_12 : decode cX13_areAlike 12 = .ok (.aload_n 0, 1) := by decide +kernel
theorem dX13_areAlike_13 : decode cX13_areAlike 13 = .ok (.getfield 34, 3) := by decide +kernel
theorem dX13_areAlike_16 : decode cX13_areAlike 16 = .ok (.iload_n 3, 1) := by decide +kernel
theorem dX13_areAlike_17 : decode cX13_areAlike 17 = .ok (.iaload, 1) := by decide +kernel
theorem dX13_areAlike_18 : decode cX13_areAlike 18 = .ok (.iload 4, 2) := by decide +kernel
theorem dX13_areAlike_20 : decode cX13_areAlike 20 = .ok (.iadd, 1) := by decide +kernel
theorem dX13_areAlike_21 : decode cX13_areAlike 21 = .ok (.if_icmp .eq 5, 3) := by decide +kernel
theorem dX13_areAlike_24 : decode cX13_areAlike 24 = .ok (.iconst 0, 1) := by decide +kernel
theorem dX13_areAlike_25 : decode cX13_areAlike 25 = .ok (.ireturn, 1) := by decide +kernel
theorem dX13_areAlike_26 : decode cX13_areAlike 26 = .ok (.iconst 0, 1) := by decide +kernel
theorem dX13_areAlike_27 : decode cX13_areAlike 27 = .ok (.istore 6, 2) := by decide +kernel
theorem dX13_areAlike_29 : decode cX13_areAlike 29 = .ok (.iload 6, 2) := by decide +kernel
theorem dX13_areAlike_31 : decode cX13_areAlike 31 = .ok (.iload 5, 2) := by decide +kernel
theorem dX13_areAlike_33 : decode cX13_areAlike 33 = .ok (.if_icmp .ge 82, 3) := by decide +kernel
theorem dX13_areAlike_36 : decode cX13_areAlike 36 = .ok (.iload 6, 2) := by decide +kernel
theorem dX13_areAlike_38 : decode cX13_areAlike 38 = .ok (.aload_n 0, 1) := by decide +kernel
theorem dX13_areAlike_39 : decode cX13_areAlike 39 = .ok (.getfield 34, 3) := by decide +kernel
theorem dX13_areAlike_42 : decode cX13_areAlike 42 = .ok (.iload_n 1, 1) := by decide +kernel
theorem dX13_areAlike_43 : decode cX13_areAlike 43 = .ok (.iaload, 1) := by decide +kernel
theorem dX13_areAlike_44 : decode cX13_areAlike 44 = .ok (.if_icmp .ge 20, 3) := by decide +kernel
theorem dX13_areAlike_47 : decode cX13_areAlike 47 = .ok (.aload_n 0, 1) := by decide +kernel
theorem dX13_areAlike_48 : decode cX13_areAlike 48 = .ok (.getfield 28, 3) := by decide +kernel
theorem dX13_areAlike_51 : decode cX13_areAlike 51 = .ok (.aload_n 0, 1) := by decide +kernel
theorem dX13_areAlike_52 : decode cX13_areAlike 52 = .ok (.getfield 31, 3) := by decide +kernel
theorem dX13_areAlike_55 : decode cX13_areAlike 55 = .ok (.iload_n 1, 1) := by decide +kernel
theorem dX13_areAlike_56 : decode cX13_areAlike 56 = .ok (.iaload, 1) := by decide +kernel
theorem dX13_areAlike_57 : decode cX13_areAlike 57 = .ok (.iload 6, 2) := by decide +kernel
theorem dX13_areAlike_59 : decode cX13_areAlike 59 = .ok (.iadd, 1) := by decide +kernel
theorem dX13_areAlike_60 : decode cX13_areAlike 60 = .ok (.iaload, 1) := by decide +kernel
theorem dX13_areAlike_61 : decode cX13_areAlike 61 = .ok (.goto 5, 3) := by decide +kernel
theorem dX13_areAlike_64 : decode cX13_areAlike 64 = .ok (.bipush 39, 2) := by decide +kernel
theorem dX13_areAlike_66 : decode cX13_areAlike 66 = .ok (.istore 7, 2) := by decide +kernel
theorem dX13_areAlike_68 : decode cX13_areAlike 68 = .ok (.iload 6, 2) := by decide +kernel
theorem dX13_areAlike_70 : decode cX13_areAlike 70 = .ok (.aload_n 0, 1) := by decide +kernel
theorem dX13_areAlike_71 : decode cX13_areAlike 71 = .ok (.getfield 34, 3) := by decide +kernel
theorem dX13_areAlike_74 : decode cX13_areAlike 74 = .ok (.iload_n 3, 1) := by decide +kernel
theorem dX13_areAlike_75 : decode cX13_areAlike 75 = .ok (.iaload, 1) := by decide +kernel
theorem dX13_areAlike_76 : decode cX13_areAlike 76 = .ok (.if_icmp .ge 20, 3) := by decide +kernel
theorem dX13_areAlike_79 : decode cX13_areAlike 79 = .ok (.aload_n 0, 1) := by decide +kernel
theorem dX13_areAlike_80 : decode cX13_areAlike 80 = .ok (.getfield 28, 3) := by decide +kernel
theorem dX13_areAlike_83 : decode cX13_areAlike 83 = .ok (.aload_n 0, 1) := by decide +kernel
theorem dX13_areAlike_84 : decode cX13_areAlike 84 = .ok (.getfield 31, 3) := by decide +kernel
theorem dX13_areAlike_87 : decode cX13_areAlike 87 = .ok (.iload_n 3, 1) := by decide +kernel
theorem dX13_areAlike_88 : decode cX13_areAlike 88 = .ok (.iaload, 1) := by decide +kernel
theorem dX13_areAlike_89 : decode cX13_areAlike 89 = .ok (.iload 6, 2) := by decide +kernel
theorem dX13_areAlike_91 : decode cX13_areAlike 91 = .ok (.iadd, 1) := by decide +kernel
theorem dX13_areAlike_92 : decode cX13_areAlike 92 = .ok (.iaload, 1) := by decide +kernel
theorem dX13_areAlike_93 : decode cX13_areAlike 93 = .ok (.goto 5, 3) := by decide +kernel
theorem dX13_areAlike_96 : decode cX13_areAlike 96 = .ok (.bipush 39, 2) := by decide +kernel
theorem dX13_areAlike_98 : decode cX13_areAlike 98 = .ok (.istore 8, 2) := by decide +kernel
theorem dX13_areAlike_100 : decode cX13_areAlike 100 = .ok (.iload 7, 2) := by decide +kernel
theorem dX13_areAlike_102 : decode cX13_areAlike 102 = .ok (.iload 8, 2) := by decide +kernel
theorem dX13_areAlike_104 : decode cX13_areAlike 104 = .ok (.if_icmp .eq 5, 3) := by decide +kernel
theorem dX13_areAlike_107 : decode cX13_areAlike 107 = .ok (.iconst 0, 1) := by decide +kernel
theorem dX13_areAlike_108 : decode cX13_areAlike 108 = .ok (.ireturn, 1) := by decide +kernel
theorem dX13_areAlike_109 : decode cX13_areAlike 109 = .ok (.iinc 6 1, 3) := by decide +kernel
theorem dX13_areAlike_112 : decode cX13_areAlike 112 = .ok (.goto (-83), 3) := by decide +kernel
theorem dX13_areAlike_115 : decode cX13_areAlike 115 = .ok (.iconst 1, 1) := by decide +kernel
theorem dX13_areAlike_116 : decode cX13_areAlike 116 = .ok (.ireturn, 1) := by decide +kernel
def EX13_begin : List (Nat × Nat) := [(15, 5), (15, 7), (15, 10), (15, 11), (15, 15), (15, 18), (15, 21)]
def EX13_nameOf : List (Nat × Nat) := [(15, 7), (15, 10), (155, 0), (156, 0), (166, 0)]
def EX13_isNamed : List (Nat × Nat) := []
def EX13_node : List (Nat × Nat) := [(15, 5), (150, 0), (151, 0), (152, 0), (153, 0), (154, 0)]
def EX13_part : List (Nat × Nat) := []
def EX13_token : List (Nat × Nat) := [(15, 30), (157, 0), (167, 0)]
def EX13_isLetter : List (Nat × Nat) := []
def EX13_isNameSign : List (Nat × Nat) := []
def EX13_is : List (Nat × Nat) := []
def EX13_isWord : List (Nat × Nat) := []
def EX13_expect : List (Nat × Nat) := [(15, 32), (15, 33)]
def EX13_readName : List (Nat × Nat) := [(15, 32), (15, 33)]
def EX13_readNumber : List (Nat × Nat) := [(15, 32), (15, 33)]
def EX13_fails : List (Nat × Nat) := [(15, 34)]
def EX13_symbolOf : List (Nat × Nat) := []
def EX13_factOf : List (Nat × Nat) := []
def EX13_isVariable : List (Nat × Nat) := []
def EX13_hypOf : List (Nat × Nat) := []
def EX13_checkNew : List (Nat × Nat) := [(15, 34)]
def EX13_addFact : List (Nat × Nat) := [(15, 15), (160, 0), (163, 0)]
def EX13_close : List (Nat × Nat) := [(15, 15), (15, 18), (15, 21), (15, 34), (160, 0), (163, 0)]
def EX13_copyGoal : List (Nat × Nat) := [(158, 0), (159, 0), (161, 0), (162, 0), (163, 0)]
def EX13_times : List (Nat × Nat) := [(15, 21), (15, 34), (158, 0), (159, 0), (161, 0), (162, 0), (163, 0)]
def EX13_done : List (Nat × Nat) := [(15, 21), (15, 34), (158, 0), (159, 0), (161, 0), (162, 0), (163, 0)]
def EX13_put : List (Nat × Nat) := [(15, 46), (101, 0)]
def EX13_words : List (Nat × Nat) := [(15, 46), (101, 0)]
def EX13_putName : List (Nat × Nat) := [(15, 46), (101, 0)]
def EX13_putBound : List (Nat × Nat) := [(15, 46), (101, 0)]
def EX13_areAlike : List (Nat × Nat) := []
def EX13_formulaOf : List (Nat × Nat) := [(15, 34)]
set_option maxHeartbeats 4000000 in
set_option maxRecDepth 20000 in
theorem uX13_begin (l : Launch) (dC : Nat → ClassId) (dI : Nat → Nat → Nat) (ca : Nat → ClassId) (base : Nat) (B : jF) (hB : jBok B) (hAp : jAp (dC, dI)) (hB15 : ∀ n G a H, B 15 n G a H ↔ jOb (dC, dI) 15 50 (F15 n G) a H) (G0 : jT) (H0 : Heap) (r0 : Nat) : Met l yX13_begin (jw yX13_begin cX13_begin 1 none) ({ frames := 0, cells := 0, slots := 0, locals := 0 }) (va_Pc [.ref r0] (fun U => U.heap = H0 ∧ jX B base G0 [] H0 ∧ jG dC dI ca base U ∧ G0 r0 = some (15, 0) ∧ jP (dC, dI) G0 H0 [] ∧ True)) (va_Qv (S := Int32 × Int32 × Int32 × Int32) (fun u => u.1.toInt = 0 ∧ u.2.1.toInt = 0 ∧ u.2.2.1.toInt = 0 ∧ u.2.2.2.toInt = 0) (fun u t => jRt (dC, dI) B base G0 EX13_begin H0 [(r0, 15, 5, .int u.1), (r0, 15, 7, .int u.2.1), (r0, 15, 10, .int u.2.2.1), (r0, 15, 21, .int u.2.2.2)] t.heap) (jA base)) 0 0 (jA base) := by
  refine Met.ofW (cc := cX13_begin) (maxL := 1) (ret := none) (by decide) rfl ?_
  intro p e s m args below meth c s₁ Bd hml hv
  obtain ⟨rfl, hH0, hX, hG, hg_r0, hP0, hp0⟩ := hv
  have hK := hG.1
  have hx := Bd.exec
  have hb := Bd.bytes
  have hr := Bd.returns
  have hts := atoms_spec (ws := (jw yX13_begin cX13_begin 1 none)) Bd.pre
  have htw : ∀ w ∈ jWl, w.before _ s = true := fun w h => hts w (List.mem_cons_of_mem _ h)
  have hown : s.vm.findClass RX13 = some m.cls := findClass_of_methodNamed Bd.named
  have hlocks := Bd.notSynchronized
  obtain ⟨Q, hQ⟩ : ∃ Q, Q = MQ below (va_Qv (S := Int32 × Int32 × Int32 × Int32) (fun u => u.1.toInt = 0 ∧ u.2.1.toInt = 0 ∧ u.2.2.1.toInt = 0 ∧ u.2.2.2.toInt = 0) (fun u t => jRt (dC, dI) B base G0 EX13_begin H0 [(r0, 15, 5, .int u.1), (r0, 15, 7, .int u.2.1), (r0, 15, 10, .int u.2.2.1), (r0, 15, 21, .int u.2.2.2)] t.heap) (jA base)) ([.ref r0] : List Value).toArray s 0 0 (jA base) := ⟨_, rfl⟩
  rw [← hQ]
  have hl := lv_entry ([.ref r0]) (n := 1) (Nat.le_of_ble_eq_true rfl)
  rw [lg_entry_eq]
  generalize (lg_sl ([.ref r0]) ++ List.replicate (1 - (lg_sl ([.ref r0])).length) Slot.unset).toArray = ls at hl ⊢
  have hl : lv_has ls 1 [(0, .ref r0)] := hl
  generalize hR : (headSpec (jw yX13_begin cX13_begin 1 none) ({ frames := 0, cells := 0, slots := 0, locals := 0 })).room = R
  subst hH0
  have hh : jSt (dC, dI) B base G0 G0 EX13_begin s.heap 0 0 [] [] [] s.heap [] := jSt.start hX hP0 jMc.nil jIs.nil
  clear hX hP0
  have hk0 : (0 : Int32).toInt = 0 := by decide
  have hk1 : (1 : Int32).toInt = 1 := by decide
  have hly_15_5 := htw (u_lay RX13 TX13 5) (jWc_wsX130 _ (u_in_lay (by decide)))
  have hly_15_7 := htw (u_lay RX13 TX13 7) (jWc_wsX130 _ (u_in_lay (by decide)))
  have hly_15_10 := htw (u_lay RX13 TX13 10) (jWc_wsX130 _ (u_in_lay (by decide)))
  have hly_15_11 := htw (u_lay RX13 TX13 11) (jWc_wsX130 _ (u_in_lay (by decide)))
  have hly_15_15 := htw (u_lay RX13 TX13 15) (jWc_wsX130 _ (u_in_lay (by decide)))
  have hly_15_18 := htw (u_lay RX13 TX13 18) (jWc_wsX130 _ (u_in_lay (by decide)))
  have hly_15_21 := htw (u_lay RX13 TX13 21) (jWc_wsX130 _ (u_in_lay (by decide)))
  have hlk_99 := (htw (.fieldLink RX13 99 "ProofServerModel$Kernel" "nodes" "I") (jWr_59 _ (List.mem_of_getElem? (i := 14) rfl)))
  have hlk_103 := (htw (.fieldLink RX13 103 "ProofServerModel$Kernel" "nameCount" "I") (jWr_59 _ (List.mem_of_getElem? (i := 15) rfl)))
  have hlk_106 := (htw (.fieldLink RX13 106 "ProofServerModel$Kernel" "signCount" "I") (jWr_59 _ (List.mem_of_getElem? (i := 16) rfl)))
  have hlk_109 := (htw (.fieldLink RX13 109 "ProofServerModel$Kernel" "symbols" "I") (jWr_59 _ (List.mem_of_getElem? (i := 17) rfl)))
  have hlk_112 := (htw (.fieldLink RX13 112 "ProofServerModel$Kernel" "facts" "I") (jWr_59 _ (List.mem_of_getElem? (i := 18) rfl)))
  have hlk_115 := (htw (.fieldLink RX13 115 "ProofServerModel$Kernel" "proof" "Z") (jWr_59 _ (List.mem_of_getElem? (i := 19) rfl)))
  have hlk_119 := (htw (.fieldLink RX13 119 "ProofServerModel$Kernel" "goals" "I") (jWr_59 _ (List.mem_of_getElem? (i := 20) rfl)))
  refine lv_aload_n hx hb dX13_begin_0 rfl (lv_at hl 0 rfl) ?_
  refine lv_iconst (v := 0) hx hb dX13_begin_1 (by decide) ?_
  refine j7_put hx hb hown hK hh hB hAp hB15 (C := RX13) (T := TX13) (N := 50) rfl (by decide) hg_r0 (i := 5) (by decide) hly_15_5 rfl hlk_99 rfl (ty := .int) (v := .int 0) (by decide +kernel) rfl rfl (⟨_, rfl, by omega, by omega⟩) rfl (L1 := []) [] rfl rfl rfl dX13_begin_2 (fun H_1 locs_1 hh_1 => ?_)
  clear hh
  refine lv_aload_n hx hb dX13_begin_5 rfl (lv_at hl 0 rfl) ?_
  refine lv_iconst (v := 0) hx hb dX13_begin_6 (by decide) ?_
  refine j7_put hx hb hown hK hh_1 hB hAp hB15 (C := RX13) (T := TX13) (N := 50) rfl (by decide) hg_r0 (i := 10) (by decide) hly_15_10 rfl hlk_103 rfl (ty := .int) (v := .int 0) (by decide +kernel) rfl rfl (⟨_, rfl, by omega, by omega⟩) rfl (L1 := [(r0, 15, 5, .int 0)]) [0] rfl rfl rfl dX13_begin_7 (fun H_2 locs_2 hh_2 => ?_)
  clear hh_1
  refine lv_aload_n hx hb dX13_begin_10 rfl (lv_at hl 0 rfl) ?_
  refine lv_iconst (v := 0) hx hb dX13_begin_11 (by decide) ?_
  refine j7_put hx hb hown hK hh_2 hB hAp hB15 (C := RX13) (T := TX13) (N := 50) rfl (by decide) hg_r0 (i := 7) (by decide) hly_15_7 rfl hlk_106 rfl (ty := .int) (v := .int 0) (by decide +kernel) rfl rfl (⟨_, rfl, by omega, by omega⟩) rfl (L1 := [(r0, 15, 10, .int 0), (r0, 15, 5, .int 0)]) [0, 1] rfl rfl rfl dX13_begin_12 (fun H_3 locs_3 hh_3 => ?_)
  clear hh_2
  refine lv_aload_n hx hb dX13_begin_15 rfl (lv_at hl 0 rfl) ?_
  refine lv_iconst (v := 0) hx hb dX13_begin_16 (by decide) ?_
  refine j7_put hx hb hown hK hh_3 hB hAp hB15 (C := RX13) (T := TX13) (N := 50) rfl (by decide) hg_r0 (i := 11) (by decide) hly_15_11 rfl hlk_109 rfl (ty := .int) (v := .int 0) (by decide +kernel) rfl rfl (⟨_, rfl, by omega, by omega⟩) rfl (L1 := [(r0, 15, 7, .int 0), (r0, 15, 10, .int 0), (r0, 15, 5, .int 0)]) [0, 1, 2] rfl rfl rfl dX13_begin_17 (fun H_4 locs_4 hh_4 => ?_)
  clear hh_3
  refine lv_aload_n hx hb dX13_begin_20 rfl (lv_at hl 0 rfl) ?_
  refine lv_iconst (v := 0) hx hb dX13_begin_21 (by decide) ?_
  refine j7_put hx hb hown hK hh_4 hB hAp hB15 (C := RX13) (T := TX13) (N := 50) rfl (by decide) hg_r0 (i := 15) (by decide) hly_15_15 rfl hlk_112 rfl (ty := .int) (v := .int 0) (by decide +kernel) rfl rfl (⟨_, rfl, by omega, by omega⟩) rfl (L1 := [(r0, 15, 11, .int 0), (r0, 15, 7, .int 0), (r0, 15, 10, .int 0), (r0, 15, 5, .int 0)]) [0, 1, 2, 3] rfl rfl rfl dX13_begin_22 (fun H_5 locs_5 hh_5 => ?_)
  clear hh_4
  refine lv_aload_n hx hb dX13_begin_25 rfl (lv_at hl 0 rfl) ?_
  refine lv_iconst (v := 0) hx hb dX13_begin_26 (by decide) ?_
  refine j7_put hx hb hown hK hh_5 hB hAp hB15 (C := RX13) (T := TX13) (N := 50) rfl (by decide) hg_r0 (i := 18) (by decide) hly_15_18 rfl hlk_115 rfl (ty := .boolean) (v := .int 0) (by decide +kernel) (jb_nz (Or.inl rfl)) (jb_fz (Or.inl rfl)) (⟨_, rfl, (Or.inl rfl)⟩) rfl (L1 := [(r0, 15, 15, .int 0), (r0, 15, 11, .int 0), (r0, 15, 7, .int 0), (r0, 15, 10, .int 0), (r0, 15, 5, .int 0)]) [0, 1, 2, 3, 4] rfl rfl rfl dX13_begin_27 (fun H_6 locs_6 hh_6 => ?_)
  clear hh_5
  refine lv_aload_n hx hb dX13_begin_30 rfl (lv_at hl 0 rfl) ?_
  refine lv_iconst (v := 0) hx hb dX13_begin_31 (by decide) ?_
  refine j7_put hx hb hown hK hh_6 hB hAp hB15 (C := RX13) (T := TX13) (N := 50) rfl (by decide) hg_r0 (i := 21) (by decide) hly_15_21 rfl hlk_119 rfl (ty := .int) (v := .int 0) (by decide +kernel) rfl rfl (⟨_, rfl, by omega, by omega⟩) rfl (L1 := [(r0, 15, 18, .int 0), (r0, 15, 15, .int 0), (r0, 15, 11, .int 0), (r0, 15, 7, .int 0), (r0, 15, 10, .int 0), (r0, 15, 5, .int 0)]) [0, 1, 2, 3, 4, 5] rfl rfl rfl dX13_begin_32 (fun H_7 locs_7 hh_7 => ?_)
  clear hh_6
  rw [hQ]
  exact W.vret hx hb hr (fun t ht hW => ⟨⟨(0, 0, 0, 0), rfl, by first | omega | (refine ⟨?_, ?_, ?_, ?_⟩ <;> (first | omega | rfl | assumption | decide | exact Or.inl rfl | exact Or.inr rfl | (simp only; omega))), hh_7.rt (M1 := [(r0, 15, 5, .int 0), (r0, 15, 7, .int 0), (r0, 15, 10, .int 0), (r0, 15, 21, .int 0)]) [6, 4, 5, 0] rfl ht⟩, by rw [ht]; try exact hh_7.1.1, fun q h9 hq => by rw [ht]; try exact hh_7.1.2.1 q h9 hq⟩) hh_7.1.2.2 dX13_begin_35
set_option maxHeartbeats 4000000 in
set_option maxRecDepth 20000 in
theorem uX13_nameOf (l : Launch) (dC : Nat → ClassId) (dI : Nat → Nat → Nat) (ca : Nat → ClassId) (base : Nat) (B : jF) (hB : jBok B) (hAp : jAp (dC, dI)) (hB15 : ∀ n G a H, B 15 n G a H ↔ jOb (dC, dI) 15 50 (F15 n G) a H) (hB101 : ∀ n G a H, B 101 n G a H ↔ jAr (dC, dI) (ca 1) (fun j z => True) n a H) (hB155 : ∀ n G a H, B 155 n G a H ↔ jAr (dC, dI) (ca 1) (fun j z => 0 ≤ z.toInt ∧ z.toInt ≤ 11990) n a H) (hB156 : ∀ n G a H, B 156 n G a H ↔ jAr (dC, dI) (ca 1) (fun j z => 0 ≤ z.toInt ∧ z.toInt ≤ 10) n a H) (hB166 : ∀ n G a H, B 166 n G a H ↔ jAr (dC, dI) (ca 1) (fun j z => True) n a H) (G0 : jT) (H0 : Heap) (r0 : Nat) (r1 : Nat) (a2 : Int32) (a3 : Int32) (n1 : Nat) (pc : Int32) (ps : Int32) : Met l yX13_nameOf (jw yX13_nameOf cX13_nameOf 7 (some .int)) ({ frames := 0, cells := 0, slots := 0, locals := 0 }) (va_Pc [.ref r0, .ref r1, .int a2, .int a3] (fun U => U.heap = H0 ∧ jX B base G0 [] H0 ∧ jG dC dI ca base U ∧ G0 r1 = some (101, n1) ∧ G0 r0 = some (15, 0) ∧ jP (dC, dI) G0 H0 [(r0, 15, 10, .int pc), (r0, 15, 7, .int ps)] ∧ 0 ≤ a2.toInt ∧ a2.toInt ≤ a3.toInt ∧ a3.toInt ≤ n1 ∧ n1 ≤ 200000 ∧ a3.toInt - a2.toInt ≤ 10 ∧ 0 ≤ pc.toInt ∧ pc.toInt ≤ 1599 ∧ 0 ≤ ps.toInt ∧ ps.toInt ≤ 11990)) (va_Qi (S := Int32 × Int32) (fun r u => (0 ≤ r.toInt ∧ r.toInt < u.1.toInt ∧ pc.toInt ≤ u.1.toInt ∧ u.1.toInt ≤ pc.toInt + 1 ∧ ps.toInt ≤ u.2.toInt ∧ u.2.toInt ≤ ps.toInt + (a3.toInt - a2.toInt))) (fun u t => jRt (dC, dI) B base G0 EX13_nameOf H0 [(r0, 15, 10, .int u.1), (r0, 15, 7, .int u.2)] t.heap) (jA base)) 0 0 (jA base) := by
  refine Met.ofW (cc := cX13_nameOf) (maxL := 7) (ret := (some .int)) (by decide) rfl ?_
  intro p e s m args below meth c s₁ Bd hml hv
  obtain ⟨rfl, hH0, hX, hG, hg_r1, hg_r0, hP0, hp0, hp1, hp2, hp3, hp4, hp5, hp6, hp7, hp8⟩ := hv
  have hK := hG.1
  have hx := Bd.exec
  have hb := Bd.bytes
  have hr := Bd.returns
  have hts := atoms_spec (ws := (jw yX13_nameOf cX13_nameOf 7 (some .int))) Bd.pre
  have htw : ∀ w ∈ jWl, w.before _ s = true := fun w h => hts w (List.mem_cons_of_mem _ h)
  have hown : s.vm.findClass RX13 = some m.cls := findClass_of_methodNamed Bd.named
  have hlocks := Bd.notSynchronized
  obtain ⟨Q, hQ⟩ : ∃ Q, Q = MQ below (va_Qi (S := Int32 × Int32) (fun r u => (0 ≤ r.toInt ∧ r.toInt < u.1.toInt ∧ pc.toInt ≤ u.1.toInt ∧ u.1.toInt ≤ pc.toInt + 1 ∧ ps.toInt ≤ u.2.toInt ∧ u.2.toInt ≤ ps.toInt + (a3.toInt - a2.toInt))) (fun u t => jRt (dC, dI) B base G0 EX13_nameOf H0 [(r0, 15, 10, .int u.1), (r0, 15, 7, .int u.2)] t.heap) (jA base)) ([.ref r0, .ref r1, .int a2, .int a3] : List Value).toArray s 0 0 (jA base) := ⟨_, rfl⟩
  rw [← hQ]
  have hl := lv_entry ([.ref r0, .ref r1, .int a2, .int a3]) (n := 7) (Nat.le_of_ble_eq_true rfl)
  rw [lg_entry_eq]
  generalize (lg_sl ([.ref r0, .ref r1, .int a2, .int a3]) ++ List.replicate (7 - (lg_sl ([.ref r0, .ref r1, .int a2, .int a3])).length) Slot.unset).toArray = ls at hl ⊢
  have hl : lv_has ls 7 [(0, .ref r0), (1, .ref r1), (2, .int a2), (3, .int a3)] := hl
  generalize hR : (headSpec (jw yX13_nameOf cX13_nameOf 7 (some .int)) ({ frames := 0, cells := 0, slots := 0, locals := 0 })).room = R
  subst hH0
  have hh : jSt (dC, dI) B base G0 G0 EX13_nameOf s.heap 0 0 [(r0, 15, 10, .int pc), (r0, 15, 7, .int ps)] [] [] s.heap [] := jSt.start hX hP0 jMc.nil jIs.nil
  clear hX hP0
  have hk0 : (0 : Int32).toInt = 0 := by decide
  have hk1 : (1 : Int32).toInt = 1 := by decide
  have hly_15_6 := htw (u_lay RX13 TX13 6) (jWc_wsX130 _ (u_in_lay (by decide)))
  have hly_15_7 := htw (u_lay RX13 TX13 7) (jWc_wsX130 _ (u_in_lay (by decide)))
  have hly_15_8 := htw (u_lay RX13 TX13 8) (jWc_wsX130 _ (u_in_lay (by decide)))
  have hly_15_9 := htw (u_lay RX13 TX13 9) (jWc_wsX130 _ (u_in_lay (by decide)))
  have hly_15_10 := htw (u_lay RX13 TX13 10) (jWc_wsX130 _ (u_in_lay (by decide)))
  have hlk_103 := (htw (.fieldLink RX13 103 "ProofServerModel$Kernel" "nameCount" "I") (jWr_59 _ (List.mem_of_getElem? (i := 15) rfl)))
  have hlk_34 := (htw (.fieldLink RX13 34 "ProofServerModel$Kernel" "nameLength" "[I") (jWr_14 _ (List.mem_of_getElem? (i := 16) rfl)))
  have hlk_28 := (htw (.fieldLink RX13 28 "ProofServerModel$Kernel" "signs" "[I") (jWr_14 _ (List.mem_of_getElem? (i := 14) rfl)))
  have hlk_31 := (htw (.fieldLink RX13 31 "ProofServerModel$Kernel" "nameAt" "[I") (jWr_14 _ (List.mem_of_getElem? (i := 15) rfl)))
  have hlk_106 := (htw (.fieldLink RX13 106 "ProofServerModel$Kernel" "signCount" "I") (jWr_59 _ (List.mem_of_getElem? (i := 16) rfl)))
  have hrg_a2 := jb_rng a2
  have hrg_a3 := jb_rng a3
  refine lv_iconst (v := 0) hx hb dX13_nameOf_0 (by decide) ?_
  refine lv_istore (lv' := [(4, .int 0), (0, .ref r0), (1, .ref r1), (2, .int a2), (3, .int a3)]) hx hb dX13_nameOf_1 hl (by decide) rfl (fun ls hl => ?_)
  obtain ⟨v_1, hv_1, hh_2⟩ := hh.pin (C := RX13) (T := TX13) (N := 50) hB15 rfl (by decide) hg_r0 (i := 9) (by decide) rfl
  obtain ⟨nameLength_3, rfl, hg_nameLength_3⟩ := hv_1
  obtain ⟨f_nameLength_4, hh_4⟩ := hh_2.cpin hB156 (by decide) (by decide) hg_nameLength_3
  clear hh_2
  have L3 : ∀ (N : Nat) (v4_5 : Int32) (H_5 : Heap) (locs_5 : List Loc), jSt (dC, dI) B base G0 G0 EX13_nameOf s.heap 0 0 [(r0, 15, 9, .ref nameLength_3), (r0, 15, 10, .int pc), (r0, 15, 7, .int ps)] [(nameLength_3, 156, 1600, ca 1, f_nameLength_4)] [] H_5 locs_5 → (0 ≤ v4_5.toInt ∧ v4_5.toInt ≤ pc.toInt) → (pc.toInt - v4_5.toInt : Int) < N → ∀ ls : Array Slot, lv_has ls 7 [(0, .ref r0), (1, .ref r1), (2, .int a2), (3, .int a3), (4, .int v4_5)] → W p l e R s m ([.ref r0, .ref r1, .int a2, .int a3] : List Value).toArray below meth c H_5 locs_5 0 0 Q (F0 m 3 ls []) := by
    intro N
    induction N with
    | zero => intro v4_5 H_5 locs_5 hh_5  hi_5 hm; exact absurd hm (by omega)
    | succ N L3 =>
      intro v4_5 H_5 locs_5 hh_5  hi_5 hm_5 ls hl
      obtain ⟨hi_5_0, hi_5_1⟩ := hi_5
      refine lv_iload hx hb dX13_nameOf_3 (lv_at hl 4 rfl) ?_
      refine lv_aload_n hx hb dX13_nameOf_5 rfl (lv_at hl 0 rfl) ?_
      refine j7_read hx hb hown hK (C := RX13) (T := TX13) (N := 50) rfl hly_15_10 hlk_103 (hh_5.at 1 rfl) dX13_nameOf_6 ?_
      refine lv_icmp_ge (tgt := 103) hx hb dX13_nameOf_9 (by decide) (fun c_6 => ?_) (fun c_6 => ?_)
      · skip
        have c_6' : v4_5.toInt ≥ pc.toInt := jb_ge (rfl) (rfl) c_6
        refine lv_aload_n hx hb dX13_nameOf_103 rfl (lv_at hl 0 rfl) ?_
        obtain ⟨v_7, hv_7, hh_8⟩ := hh_5.pin (C := RX13) (T := TX13) (N := 50) hB15 rfl (by decide) hg_r0 (i := 8) (by decide) rfl
        clear hh_5
        obtain ⟨nameAt_9, rfl, hg_nameAt_9⟩ := hv_7
        refine j7_read hx hb hown hK (C := RX13) (T := TX13) (N := 50) rfl hly_15_8 hlk_31 (hh_8.at 0 rfl) dX13_nameOf_104 ?_
        refine lv_aload_n hx hb dX13_nameOf_107 rfl (lv_at hl 0 rfl) ?_
        refine j7_read hx hb hown hK (C := RX13) (T := TX13) (N := 50) rfl hly_15_10 hlk_103 (hh_8.at 2 rfl) dX13_nameOf_108 ?_
        refine lv_aload_n hx hb dX13_nameOf_111 rfl (lv_at hl 0 rfl) ?_
        refine j7_read hx hb hown hK (C := RX13) (T := TX13) (N := 50) rfl hly_15_7 hlk_106 (hh_8.at 3 rfl) dX13_nameOf_112 ?_
        refine j7_iast hx hb hK hh_8 hB hB155 1 rfl (by decide) (by decide) rfl rfl rfl hg_nameAt_9 (x := pc.toInt) (rfl) (by omega) (by first | omega | (refine ⟨?_, ?_⟩ <;> (first | omega | rfl | assumption | decide | exact Or.inl rfl | exact Or.inr rfl | (simp only; omega)))) dX13_nameOf_115 (fun H_10 locs_10 hh_10 => ?_)
        clear hh_8
        refine lv_aload_n hx hb dX13_nameOf_116 rfl (lv_at hl 0 rfl) ?_
        refine j7_read hx hb hown hK (C := RX13) (T := TX13) (N := 50) rfl hly_15_9 hlk_34 (hh_10.at 1 rfl) dX13_nameOf_117 ?_
        refine lv_aload_n hx hb dX13_nameOf_120 rfl (lv_at hl 0 rfl) ?_
        refine j7_read hx hb hown hK (C := RX13) (T := TX13) (N := 50) rfl hly_15_10 hlk_103 (hh_10.at 2 rfl) dX13_nameOf_121 ?_
        refine lv_iload_n hx hb dX13_nameOf_124 rfl (lv_at hl 3 rfl) ?_
        refine lv_iload_n hx hb dX13_nameOf_125 rfl (lv_at hl 2 rfl) ?_
        refine lv_isub hx hb dX13_nameOf_126 ?_
        refine lv_topi (fun z_11 ez_11 => ?_)
        have hz_11 : z_11.toInt = a3.toInt - a2.toInt := by rw [ez_11]; exact jb_isub2 (rfl) (rfl) (by omega)
        have hh_13 := hh_10.sub (L1 := [(r0, 15, 8, .ref nameAt_9), (r0, 15, 9, .ref nameLength_3), (r0, 15, 10, .int pc), (r0, 15, 7, .int ps)]) [0, 1, 2, 3] rfl (M1 := []) [] rfl (I1 := []) [] rfl
        clear hh_10
        refine j7_iast hx hb hK hh_13 hB hB156 1 rfl (by decide) (by decide) rfl rfl rfl hg_nameLength_3 (x := pc.toInt) (rfl) (by omega) (by first | omega | (refine ⟨?_, ?_⟩ <;> (first | omega | rfl | assumption | decide | exact Or.inl rfl | exact Or.inr rfl | (simp only; omega)))) dX13_nameOf_127 (fun H_12 locs_12 hh_12 => ?_)
        clear hh_13
        refine lv_iload_n hx hb dX13_nameOf_128 rfl (lv_at hl 2 rfl) ?_
        refine lv_istore (lv' := [(4, .int a2), (0, .ref r0), (1, .ref r1), (2, .int a2), (3, .int a3)]) hx hb dX13_nameOf_129 hl (by decide) rfl (fun ls hl => ?_)
        have L131 : ∀ (N : Nat) (v4_14 : Int32) (ws_14 : Int32) (H_14 : Heap) (locs_14 : List Loc), jSt (dC, dI) B base G0 G0 EX13_nameOf s.heap 0 0 [(r0, 15, 7, .int ws_14), (r0, 15, 8, .ref nameAt_9), (r0, 15, 9, .ref nameLength_3), (r0, 15, 10, .int pc)] [] [] H_14 locs_14 → (a2.toInt ≤ v4_14.toInt ∧ v4_14.toInt ≤ a3.toInt ∧ ws_14.toInt = ps.toInt + (v4_14.toInt - a2.toInt)) → (a3.toInt - v4_14.toInt : Int) < N → ∀ ls : Array Slot, lv_has ls 7 [(0, .ref r0), (1, .ref r1), (2, .int a2), (3, .int a3), (4, .int v4_14)] → W p l e R s m ([.ref r0, .ref r1, .int a2, .int a3] : List Value).toArray below meth c H_14 locs_14 0 0 Q (F0 m 131 ls []) := by
          intro N
          induction N with
          | zero => intro v4_14 ws_14 H_14 locs_14 hh_14  hi_14 hm; exact absurd hm (by omega)
          | succ N L131 =>
            intro v4_14 ws_14 H_14 locs_14 hh_14  hi_14 hm_14 ls hl
            obtain ⟨hi_14_0, hi_14_1, hi_14_2⟩ := hi_14
            refine lv_iload hx hb dX13_nameOf_131 (lv_at hl 4 rfl) ?_
            refine lv_iload_n hx hb dX13_nameOf_133 rfl (lv_at hl 3 rfl) ?_
            refine lv_icmp_ge (tgt := 166) hx hb dX13_nameOf_134 (by decide) (fun c_15 => ?_) (fun c_15 => ?_)
            · skip
              have c_15' : v4_14.toInt ≥ a3.toInt := jb_ge (rfl) (rfl) c_15
              refine lv_aload_n hx hb dX13_nameOf_166 rfl (lv_at hl 0 rfl) ?_
              refine lv_dup hx hb dX13_nameOf_167 rfl ?_
              refine j7_read hx hb hown hK (C := RX13) (T := TX13) (N := 50) rfl hly_15_10 hlk_103 (hh_14.at 3 rfl) dX13_nameOf_168 ?_
              refine lv_iconst (v := 1) hx hb dX13_nameOf_171 (by decide) ?_
              refine lv_iadd hx hb dX13_nameOf_172 ?_
              refine lv_topi (fun z_16 ez_16 => ?_)
              have hz_16 : z_16.toInt = pc.toInt + 1 := by rw [ez_16]; exact jb_iadd2 (rfl) ((by decide)) (by omega)
              refine j7_put hx hb hown hK hh_14 hB hAp hB15 (C := RX13) (T := TX13) (N := 50) rfl (by decide) hg_r0 (i := 10) (by decide) hly_15_10 rfl hlk_103 rfl (ty := .int) (v := .int z_16) (by decide +kernel) rfl rfl (⟨_, rfl, by omega, by omega⟩) rfl (L1 := [(r0, 15, 7, .int ws_14), (r0, 15, 8, .ref nameAt_9), (r0, 15, 9, .ref nameLength_3)]) [0, 1, 2] rfl rfl rfl dX13_nameOf_173 (fun H_17 locs_17 hh_17 => ?_)
              clear hh_14
              refine lv_aload_n hx hb dX13_nameOf_176 rfl (lv_at hl 0 rfl) ?_
              refine j7_read hx hb hown hK (C := RX13) (T := TX13) (N := 50) rfl hly_15_10 hlk_103 (hh_17.at 0 rfl) dX13_nameOf_177 ?_
              refine lv_iconst (v := 1) hx hb dX13_nameOf_180 (by decide) ?_
              refine lv_isub hx hb dX13_nameOf_181 ?_
              refine lv_topi (fun z_18 ez_18 => ?_)
              have hz_18 : z_18.toInt = z_16.toInt - 1 := by rw [ez_18]; exact jb_isub2 (rfl) ((by decide)) (by omega)
              rw [hQ]
              exact W.iret (v := z_18) hx hb hr (fun t ht hW => ⟨⟨z_18, (z_16, ws_14), rfl, by first | omega | (refine ⟨?_, ?_, ?_, ?_, ?_, ?_⟩ <;> (first | omega | rfl | assumption | decide | exact Or.inl rfl | exact Or.inr rfl | (simp only; omega))), hh_17.rt (M1 := [(r0, 15, 10, .int z_16), (r0, 15, 7, .int ws_14)]) [0, 1] rfl ht⟩, by rw [ht]; try exact hh_17.1.1, fun q h9 hq => by rw [ht]; try exact hh_17.1.2.1 q h9 hq⟩) hh_17.1.2.2 dX13_nameOf_182
            · skip
              have c_15' : v4_14.toInt < a3.toInt := jb_ge_n (rfl) (rfl) c_15
              refine lv_aload_n hx hb dX13_nameOf_137 rfl (lv_at hl 0 rfl) ?_
              obtain ⟨v_19, hv_19, hh_20⟩ := hh_14.pin (C := RX13) (T := TX13) (N := 50) hB15 rfl (by decide) hg_r0 (i := 6) (by decide) rfl
              clear hh_14
              obtain ⟨signs_21, rfl, hg_signs_21⟩ := hv_19
              refine j7_read hx hb hown hK (C := RX13) (T := TX13) (N := 50) rfl hly_15_6 hlk_28 (hh_20.at 0 rfl) dX13_nameOf_138 ?_
              refine lv_aload_n hx hb dX13_nameOf_141 rfl (lv_at hl 0 rfl) ?_
              refine j7_read hx hb hown hK (C := RX13) (T := TX13) (N := 50) rfl hly_15_7 hlk_106 (hh_20.at 1 rfl) dX13_nameOf_142 ?_
              refine lv_aload_n hx hb dX13_nameOf_145 rfl (lv_at hl 1 rfl) ?_
              refine lv_iload hx hb dX13_nameOf_146 (lv_at hl 4 rfl) ?_
              refine j7_iald hx hb hK hh_20 hB101 1 rfl (by decide) hg_r1 (x := v4_14.toInt) (rfl) (by omega) dX13_nameOf_148 (fun z_22 (hz_22 : True) => ?_)
              refine j7_iast hx hb hK hh_20 hB hB166 1 rfl (by decide) (by decide) rfl rfl rfl hg_signs_21 (x := ws_14.toInt) (rfl) (by omega) (trivial) dX13_nameOf_149 (fun H_23 locs_23 hh_23 => ?_)
              clear hh_20
              refine lv_aload_n hx hb dX13_nameOf_150 rfl (lv_at hl 0 rfl) ?_
              refine lv_dup hx hb dX13_nameOf_151 rfl ?_
              refine j7_read hx hb hown hK (C := RX13) (T := TX13) (N := 50) rfl hly_15_7 hlk_106 (hh_23.at 1 rfl) dX13_nameOf_152 ?_
              refine lv_iconst (v := 1) hx hb dX13_nameOf_155 (by decide) ?_
              refine lv_iadd hx hb dX13_nameOf_156 ?_
              refine lv_topi (fun z_24 ez_24 => ?_)
              have hz_24 : z_24.toInt = ws_14.toInt + 1 := by rw [ez_24]; exact jb_iadd2 (rfl) ((by decide)) (by omega)
              refine j7_put hx hb hown hK hh_23 hB hAp hB15 (C := RX13) (T := TX13) (N := 50) rfl (by decide) hg_r0 (i := 7) (by decide) hly_15_7 rfl hlk_106 rfl (ty := .int) (v := .int z_24) (by decide +kernel) rfl rfl (⟨_, rfl, by omega, by omega⟩) rfl (L1 := [(r0, 15, 6, .ref signs_21), (r0, 15, 8, .ref nameAt_9), (r0, 15, 9, .ref nameLength_3), (r0, 15, 10, .int pc)]) [0, 2, 3, 4] rfl rfl rfl dX13_nameOf_157 (fun H_25 locs_25 hh_25 => ?_)
              clear hh_23
              obtain ⟨z_26, ez_26⟩ : ∃ y : Int32, y = v4_14 + 1 := ⟨_, rfl⟩
              refine lv_iinc (v := z_26) (lv' := [(4, .int z_26), (0, .ref r0), (1, .ref r1), (2, .int a2), (3, .int a3)]) hx hb dX13_nameOf_160 hl (k := 4) rfl (by rw [ez_26]; rfl) (by decide) rfl (fun ls hl => ?_)
              have hz_26 : z_26.toInt = v4_14.toInt + 1 := by rw [ez_26]; exact jb_iadd2 (rfl) (by decide) (by omega)
              refine lv_goto (tgt := 131) hx hb dX13_nameOf_163 (by decide) ?_
              exact L131 z_26 z_24 _ _ (hh_25.sub (L1 := [(r0, 15, 7, .int z_24), (r0, 15, 8, .ref nameAt_9), (r0, 15, 9, .ref nameLength_3), (r0, 15, 10, .int pc)]) [0, 2, 3, 4] rfl (M1 := []) [] rfl (I1 := []) [] rfl) (by first | omega | (refine ⟨?_, ?_, ?_⟩ <;> (first | omega | rfl | assumption | decide | exact Or.inl rfl | exact Or.inr rfl | (simp only; omega)))) (by omega) _ (lv_sub hl [1, 2, 3, 4, 0] rfl)
        exact L131 (a3.toInt - (a2 : Int32).toInt : Int).toNat.succ a2 ps _ _ (hh_12.sub (L1 := [(r0, 15, 7, .int ps), (r0, 15, 8, .ref nameAt_9), (r0, 15, 9, .ref nameLength_3), (r0, 15, 10, .int pc)]) [3, 0, 1, 2] rfl (M1 := []) [] rfl (I1 := []) [] rfl) (by first | omega | (refine ⟨?_, ?_, ?_⟩ <;> (first | omega | rfl | assumption | decide | exact Or.inl rfl | exact Or.inr rfl | (simp only; omega)))) (by omega) _ (lv_sub hl [1, 2, 3, 4, 0] rfl)
      · skip
        have c_6' : v4_5.toInt < pc.toInt := jb_ge_n (rfl) (rfl) c_6
        refine lv_aload_n hx hb dX13_nameOf_12 rfl (lv_at hl 0 rfl) ?_
        refine j7_read hx hb hown hK (C := RX13) (T := TX13) (N := 50) rfl hly_15_9 hlk_34 (hh_5.at 0 rfl) dX13_nameOf_13 ?_
        refine lv_iload hx hb dX13_nameOf_16 (lv_at hl 4 rfl) ?_
        refine j7_ialdM hx hb hK hh_5 hB156 1 rfl (by decide) hg_nameLength_3 (x := v4_5.toInt) (rfl) (by omega) (j := 0) rfl dX13_nameOf_18 (fun z_27 ez_27 (hz_27 : 0 ≤ z_27.toInt ∧ z_27.toInt ≤ 10) => ?_)
        have hqz_27 : z_27.toInt = (f_nameLength_4 (v4_5.toInt).toNat).toInt := by rw [ez_27]
        refine lv_iload_n hx hb dX13_nameOf_19 rfl (lv_at hl 3 rfl) ?_
        refine lv_iload_n hx hb dX13_nameOf_20 rfl (lv_at hl 2 rfl) ?_
        refine lv_isub hx hb dX13_nameOf_21 ?_
        refine lv_topi (fun z_28 ez_28 => ?_)
        have hz_28 : z_28.toInt = a3.toInt - a2.toInt := by rw [ez_28]; exact jb_isub2 (rfl) (rfl) (by omega)
        have C30 : ∀ (w0_29 : Int32) (H_29 : Heap) (locs_29 : List Loc), jSt (dC, dI) B base G0 G0 EX13_nameOf s.heap 0 0 [(r0, 15, 9, .ref nameLength_3), (r0, 15, 10, .int pc), (r0, 15, 7, .int ps)] [(nameLength_3, 156, 1600, ca 1, f_nameLength_4)] [] H_29 locs_29 → (w0_29 = 0 ∨ w0_29 = 1) → (w0_29.toInt = 0 ∨ (f_nameLength_4 (v4_5.toInt).toNat).toInt = a3.toInt - a2.toInt) → ∀ ls : Array Slot, lv_has ls 7 [(0, .ref r0), (1, .ref r1), (2, .int a2), (3, .int a3), (4, .int v4_5)] → W p l e R s m ([.ref r0, .ref r1, .int a2, .int a3] : List Value).toArray below meth c H_29 locs_29 0 0 Q (F0 m 30 ls [.int w0_29]) := by
          intro w0_29 H_29 locs_29 hh_29 hb_w0_29 hi_29 ls hl
          have hb_w0_29' := jb_01 hb_w0_29
          refine lv_istore (lv' := [(5, .int w0_29), (0, .ref r0), (1, .ref r1), (2, .int a2), (3, .int a3), (4, .int v4_5)]) hx hb dX13_nameOf_30 hl (by decide) rfl (fun ls hl => ?_)
          refine lv_iconst (v := 0) hx hb dX13_nameOf_32 (by decide) ?_
          refine lv_istore (lv' := [(6, .int 0), (5, .int w0_29), (0, .ref r0), (1, .ref r1), (2, .int a2), (3, .int a3), (4, .int v4_5)]) hx hb dX13_nameOf_33 hl (by decide) rfl (fun ls hl => ?_)
          have L35 : ∀ (N : Nat) (v5_30 : Int32) (v6_30 : Int32) (H_30 : Heap) (locs_30 : List Loc), jSt (dC, dI) B base G0 G0 EX13_nameOf s.heap 0 0 [(r0, 15, 9, .ref nameLength_3), (r0, 15, 10, .int pc), (r0, 15, 7, .int ps)] [(nameLength_3, 156, 1600, ca 1, f_nameLength_4)] [] H_30 locs_30 → (v5_30 = 0 ∨ v5_30 = 1) → (0 ≤ v6_30.toInt ∧ v6_30.toInt ≤ 10 ∧ (v5_30.toInt = 0 ∨ (f_nameLength_4 (v4_5.toInt).toNat).toInt = a3.toInt - a2.toInt)) → (10 - v6_30.toInt : Int) < N → ∀ ls : Array Slot, lv_has ls 7 [(0, .ref r0), (1, .ref r1), (2, .int a2), (3, .int a3), (4, .int v4_5), (5, .int v5_30), (6, .int v6_30)] → W p l e R s m ([.ref r0, .ref r1, .int a2, .int a3] : List Value).toArray below meth c H_30 locs_30 0 0 Q (F0 m 35 ls []) := by
            intro N
            induction N with
            | zero => intro v5_30 v6_30 H_30 locs_30 hh_30 hb_v5_30 hi_30 hm; exact absurd hm (by omega)
            | succ N L35 =>
              intro v5_30 v6_30 H_30 locs_30 hh_30 hb_v5_30 hi_30 hm_30 ls hl
              obtain ⟨hi_30_0, hi_30_1, hi_30_2⟩ := hi_30
              have hb_v5_30' := jb_01 hb_v5_30
              refine lv_iload hx hb dX13_nameOf_35 (lv_at hl 6 rfl) ?_
              refine lv_aload_n hx hb dX13_nameOf_37 rfl (lv_at hl 0 rfl) ?_
              refine j7_read hx hb hown hK (C := RX13) (T := TX13) (N := 50) rfl hly_15_9 hlk_34 (hh_30.at 0 rfl) dX13_nameOf_38 ?_
              refine lv_iload hx hb dX13_nameOf_41 (lv_at hl 4 rfl) ?_
              refine j7_ialdM hx hb hK hh_30 hB156 1 rfl (by decide) hg_nameLength_3 (x := v4_5.toInt) (rfl) (by omega) (j := 0) rfl dX13_nameOf_43 (fun z_31 ez_31 (hz_31 : 0 ≤ z_31.toInt ∧ z_31.toInt ≤ 10) => ?_)
              have hqz_31 : z_31.toInt = (f_nameLength_4 (v4_5.toInt).toNat).toInt := by rw [ez_31]
              refine lv_icmp_ge (tgt := 89) hx hb dX13_nameOf_44 (by decide) (fun c_32 => ?_) (fun c_32 => ?_)
              · skip
                have c_32' : v6_30.toInt ≥ z_31.toInt := jb_ge (rfl) (rfl) c_32
                refine lv_iload hx hb dX13_nameOf_89 (lv_at hl 5 rfl) ?_
                refine lv_if_eq (tgt := 97) hx hb dX13_nameOf_91 (by decide) (fun c_33 => ?_) (fun c_33 => ?_)
                · skip
                  have c_33' : v5_30.toInt = 0 := jb_eq (rfl) ((by decide)) c_33
                  obtain ⟨z_34, ez_34⟩ : ∃ y : Int32, y = v4_5 + 1 := ⟨_, rfl⟩
                  refine lv_iinc (v := z_34) (lv' := [(4, .int z_34), (0, .ref r0), (1, .ref r1), (2, .int a2), (3, .int a3), (5, .int v5_30), (6, .int v6_30)]) hx hb dX13_nameOf_97 hl (k := 4) rfl (by rw [ez_34]; rfl) (by decide) rfl (fun ls hl => ?_)
                  have hz_34 : z_34.toInt = v4_5.toInt + 1 := by rw [ez_34]; exact jb_iadd2 (rfl) (by decide) (by omega)
                  refine lv_goto (tgt := 3) hx hb dX13_nameOf_100 (by decide) ?_
                  exact L3 z_34 _ _ hh_30 (by first | omega | (refine ⟨?_, ?_⟩ <;> (first | omega | rfl | assumption | decide | exact Or.inl rfl | exact Or.inr rfl | (simp only; omega)))) (by omega) _ (lv_sub hl [1, 2, 3, 4, 0] rfl)
                · skip
                  have c_33' : v5_30.toInt ≠ 0 := jb_eq_n (rfl) ((by decide)) c_33
                  refine lv_iload hx hb dX13_nameOf_94 (lv_at hl 4 rfl) ?_
                  rw [hQ]
                  exact W.iret (v := v4_5) hx hb hr (fun t ht hW => ⟨⟨v4_5, (pc, ps), rfl, by first | omega | (refine ⟨?_, ?_, ?_, ?_, ?_, ?_⟩ <;> (first | omega | rfl | assumption | decide | exact Or.inl rfl | exact Or.inr rfl | (simp only; omega))), hh_30.rt (M1 := [(r0, 15, 10, .int pc), (r0, 15, 7, .int ps)]) [1, 2] rfl ht⟩, by rw [ht]; try exact hh_30.1.1, fun q h9 hq => by rw [ht]; try exact hh_30.1.2.1 q h9 hq⟩) hh_30.1.2.2 dX13_nameOf_96
              · skip
                have c_32' : v6_30.toInt < z_31.toInt := jb_ge_n (rfl) (rfl) c_32
                refine lv_iload hx hb dX13_nameOf_47 (lv_at hl 5 rfl) ?_
                refine lv_if_eq (tgt := 89) hx hb dX13_nameOf_49 (by decide) (fun c_35 => ?_) (fun c_35 => ?_)
                · skip
                  have c_35' : v5_30.toInt = 0 := jb_eq (rfl) ((by decide)) c_35
                  refine lv_iload hx hb dX13_nameOf_89 (lv_at hl 5 rfl) ?_
                  refine lv_if_eq (tgt := 97) hx hb dX13_nameOf_91 (by decide) (fun c_36 => ?_) (fun c_36 => ?_)
                  · skip
                    have c_36' : v5_30.toInt = 0 := jb_eq (rfl) ((by decide)) c_36
                    obtain ⟨z_37, ez_37⟩ : ∃ y : Int32, y = v4_5 + 1 := ⟨_, rfl⟩
                    refine lv_iinc (v := z_37) (lv' := [(4, .int z_37), (0, .ref r0), (1, .ref r1), (2, .int a2), (3, .int a3), (5, .int v5_30), (6, .int v6_30)]) hx hb dX13_nameOf_97 hl (k := 4) rfl (by rw [ez_37]; rfl) (by decide) rfl (fun ls hl => ?_)
                    have hz_37 : z_37.toInt = v4_5.toInt + 1 := by rw [ez_37]; exact jb_iadd2 (rfl) (by decide) (by omega)
                    refine lv_goto (tgt := 3) hx hb dX13_nameOf_100 (by decide) ?_
                    exact L3 z_37 _ _ hh_30 (by first | omega | (refine ⟨?_, ?_⟩ <;> (first | omega | rfl | assumption | decide | exact Or.inl rfl | exact Or.inr rfl | (simp only; omega)))) (by omega) _ (lv_sub hl [1, 2, 3, 4, 0] rfl)
                  · skip
                    have c_36' : v5_30.toInt ≠ 0 := jb_eq_n (rfl) ((by decide)) c_36
                    exact (by omega : False).elim
                · skip
                  have c_35' : v5_30.toInt ≠ 0 := jb_eq_n (rfl) ((by decide)) c_35
                  refine lv_aload_n hx hb dX13_nameOf_52 rfl (lv_at hl 0 rfl) ?_
                  obtain ⟨v_38, hv_38, hh_39⟩ := hh_30.pin (C := RX13) (T := TX13) (N := 50) hB15 rfl (by decide) hg_r0 (i := 6) (by decide) rfl
                  clear hh_30
                  obtain ⟨signs_40, rfl, hg_signs_40⟩ := hv_38
                  refine j7_read hx hb hown hK (C := RX13) (T := TX13) (N := 50) rfl hly_15_6 hlk_28 (hh_39.at 0 rfl) dX13_nameOf_53 ?_
                  refine lv_aload_n hx hb dX13_nameOf_56 rfl (lv_at hl 0 rfl) ?_
                  obtain ⟨v_41, hv_41, hh_42⟩ := hh_39.pin (C := RX13) (T := TX13) (N := 50) hB15 rfl (by decide) hg_r0 (i := 8) (by decide) rfl
                  clear hh_39
                  obtain ⟨nameAt_43, rfl, hg_nameAt_43⟩ := hv_41
                  refine j7_read hx hb hown hK (C := RX13) (T := TX13) (N := 50) rfl hly_15_8 hlk_31 (hh_42.at 0 rfl) dX13_nameOf_57 ?_
                  refine lv_iload hx hb dX13_nameOf_60 (lv_at hl 4 rfl) ?_
                  refine j7_iald hx hb hK hh_42 hB155 1 rfl (by decide) hg_nameAt_43 (x := v4_5.toInt) (rfl) (by omega) dX13_nameOf_62 (fun z_44 (hz_44 : 0 ≤ z_44.toInt ∧ z_44.toInt ≤ 11990) => ?_)
                  refine lv_iload hx hb dX13_nameOf_63 (lv_at hl 6 rfl) ?_
                  refine lv_iadd hx hb dX13_nameOf_65 ?_
                  refine lv_topi (fun z_45 ez_45 => ?_)
                  have hz_45 : z_45.toInt = z_44.toInt + v6_30.toInt := by rw [ez_45]; exact jb_iadd2 (rfl) (rfl) (by omega)
                  refine j7_iald hx hb hK hh_42 hB166 1 rfl (by decide) hg_signs_40 (x := z_45.toInt) (rfl) (by omega) dX13_nameOf_66 (fun z_46 (hz_46 : True) => ?_)
                  refine lv_aload_n hx hb dX13_nameOf_67 rfl (lv_at hl 1 rfl) ?_
                  refine lv_iload_n hx hb dX13_nameOf_68 rfl (lv_at hl 2 rfl) ?_
                  refine lv_iload hx hb dX13_nameOf_69 (lv_at hl 6 rfl) ?_
                  refine lv_iadd hx hb dX13_nameOf_71 ?_
                  refine lv_topi (fun z_47 ez_47 => ?_)
                  have hz_47 : z_47.toInt = a2.toInt + v6_30.toInt := by rw [ez_47]; exact jb_iadd2 (rfl) (rfl) (by omega)
                  refine j7_iald hx hb hK hh_42 hB101 1 rfl (by decide) hg_r1 (x := z_47.toInt) (rfl) (by omega) dX13_nameOf_72 (fun z_48 (hz_48 : True) => ?_)
                  refine lv_icmp_ne (tgt := 80) hx hb dX13_nameOf_73 (by decide) (fun c_49 => ?_) (fun c_49 => ?_)
                  · skip
                    have c_49' : z_46.toInt ≠ z_48.toInt := jb_ne (rfl) (rfl) c_49
                    refine lv_iconst (v := 0) hx hb dX13_nameOf_80 (by decide) ?_
                    refine lv_istore (lv' := [(5, .int 0), (0, .ref r0), (1, .ref r1), (2, .int a2), (3, .int a3), (4, .int v4_5), (6, .int v6_30)]) hx hb dX13_nameOf_81 hl (by decide) rfl (fun ls hl => ?_)
                    obtain ⟨z_50, ez_50⟩ : ∃ y : Int32, y = v6_30 + 1 := ⟨_, rfl⟩
                    refine lv_iinc (v := z_50) (lv' := [(6, .int z_50), (5, .int 0), (0, .ref r0), (1, .ref r1), (2, .int a2), (3, .int a3), (4, .int v4_5)]) hx hb dX13_nameOf_83 hl (k := 6) rfl (by rw [ez_50]; rfl) (by decide) rfl (fun ls hl => ?_)
                    have hz_50 : z_50.toInt = v6_30.toInt + 1 := by rw [ez_50]; exact jb_iadd2 (rfl) (by decide) (by omega)
                    refine lv_goto (tgt := 35) hx hb dX13_nameOf_86 (by decide) ?_
                    exact L35 0 z_50 _ _ (hh_42.sub (L1 := [(r0, 15, 9, .ref nameLength_3), (r0, 15, 10, .int pc), (r0, 15, 7, .int ps)]) [2, 3, 4] rfl (M1 := [(nameLength_3, 156, 1600, ca 1, f_nameLength_4)]) [0] rfl (I1 := []) [] rfl) (Or.inl rfl) (by first | omega | (refine ⟨?_, ?_, ?_⟩ <;> (first | omega | rfl | assumption | decide | exact Or.inl rfl | exact Or.inr rfl | (simp only; omega)))) (by omega) _ (lv_sub hl [2, 3, 4, 5, 6, 1, 0] rfl)
                  · skip
                    have c_49' : z_46.toInt = z_48.toInt := jb_ne_n (rfl) (rfl) c_49
                    refine lv_iconst (v := 1) hx hb dX13_nameOf_76 (by decide) ?_
                    refine lv_goto (tgt := 81) hx hb dX13_nameOf_77 (by decide) ?_
                    refine lv_istore (lv' := [(5, .int 1), (0, .ref r0), (1, .ref r1), (2, .int a2), (3, .int a3), (4, .int v4_5), (6, .int v6_30)]) hx hb dX13_nameOf_81 hl (by decide) rfl (fun ls hl => ?_)
                    obtain ⟨z_51, ez_51⟩ : ∃ y : Int32, y = v6_30 + 1 := ⟨_, rfl⟩
                    refine lv_iinc (v := z_51) (lv' := [(6, .int z_51), (5, .int 1), (0, .ref r0), (1, .ref r1), (2, .int a2), (3, .int a3), (4, .int v4_5)]) hx hb dX13_nameOf_83 hl (k := 6) rfl (by rw [ez_51]; rfl) (by decide) rfl (fun ls hl => ?_)
                    have hz_51 : z_51.toInt = v6_30.toInt + 1 := by rw [ez_51]; exact jb_iadd2 (rfl) (by decide) (by omega)
                    refine lv_goto (tgt := 35) hx hb dX13_nameOf_86 (by decide) ?_
                    exact L35 1 z_51 _ _ (hh_42.sub (L1 := [(r0, 15, 9, .ref nameLength_3), (r0, 15, 10, .int pc), (r0, 15, 7, .int ps)]) [2, 3, 4] rfl (M1 := [(nameLength_3, 156, 1600, ca 1, f_nameLength_4)]) [0] rfl (I1 := []) [] rfl) (Or.inr rfl) (by first | omega | (refine ⟨?_, ?_, ?_⟩ <;> (first | omega | rfl | assumption | decide | exact Or.inl rfl | exact Or.inr rfl | (simp only; omega)))) (by omega) _ (lv_sub hl [2, 3, 4, 5, 6, 1, 0] rfl)
          exact L35 (10 - (0 : Int32).toInt : Int).toNat.succ w0_29 0 _ _ hh_29 (hb_w0_29) (by first | omega | (refine ⟨?_, ?_, ?_⟩ <;> (first | omega | rfl | assumption | decide | exact Or.inl rfl | exact Or.inr rfl | (simp only; omega)))) (by omega) _ (lv_sub hl [2, 3, 4, 5, 6, 1, 0] rfl)
        refine lv_icmp_ne (tgt := 29) hx hb dX13_nameOf_22 (by decide) (fun c_52 => ?_) (fun c_52 => ?_)
        · skip
          have c_52' : z_27.toInt ≠ z_28.toInt := jb_ne (rfl) (rfl) c_52
          refine lv_iconst (v := 0) hx hb dX13_nameOf_29 (by decide) ?_
          exact C30 0 _ _ hh_5 (Or.inl rfl) (by first | omega | rfl | assumption | decide | exact Or.inl rfl | exact Or.inr rfl | (simp only; omega)) _ (lv_sub hl [0, 1, 2, 3, 4] rfl)
        · skip
          have c_52' : z_27.toInt = z_28.toInt := jb_ne_n (rfl) (rfl) c_52
          refine lv_iconst (v := 1) hx hb dX13_nameOf_25 (by decide) ?_
          refine lv_goto (tgt := 30) hx hb dX13_nameOf_26 (by decide) ?_
          exact C30 1 _ _ hh_5 (Or.inr rfl) (by first | omega | rfl | assumption | decide | exact Or.inl rfl | exact Or.inr rfl | (simp only; omega)) _ (lv_sub hl [0, 1, 2, 3, 4] rfl)
  exact L3 (pc.toInt - (0 : Int32).toInt : Int).toNat.succ 0 _ _ hh_4 (by first | omega | (refine ⟨?_, ?_⟩ <;> (first | omega | rfl | assumption | decide | exact Or.inl rfl | exact Or.inr rfl | (simp only; omega)))) (by omega) _ (lv_sub hl [1, 2, 3, 4, 0] rfl)
set_option maxHeartbeats 4000000 in
set_option maxRecDepth 20000 in
theorem uX13_isNamed (l : Launch) (dC : Nat → ClassId) (dI : Nat → Nat → Nat) (ca : Nat → ClassId) (base : Nat) (B : jF) (hB : jBok B) (hAp : jAp (dC, dI)) (hB15 : ∀ n G a H, B 15 n G a H ↔ jOb (dC, dI) 15 50 (F15 n G) a H) (hB155 : ∀ n G a H, B 155 n G a H ↔ jAr (dC, dI) (ca 1) (fun j z => 0 ≤ z.toInt ∧ z.toInt ≤ 11990) n a H) (hB156 : ∀ n G a H, B 156 n G a H ↔ jAr (dC, dI) (ca 1) (fun j z => 0 ≤ z.toInt ∧ z.toInt ≤ 10) n a H) (hB166 : ∀ n G a H, B 166 n G a H ↔ jAr (dC, dI) (ca 1) (fun j z => True) n a H) (G0 : jT) (H0 : Heap) (r0 : Nat) (a1 : Int32) (r2 : Nat) (n2 : Nat) : Met l yX13_isNamed (jw yX13_isNamed cX13_isNamed 5 (some .boolean)) ({ frames := 4, cells := 0, slots := 0, locals := 141 }) (va_Pc [.ref r0, .int a1, .ref r2] (fun U => U.heap = H0 ∧ jX B base G0 [] H0 ∧ jG dC dI ca base U ∧ jStr base r2 n2 U H0 ∧ G0 r0 = some (15, 0) ∧ jP (dC, dI) G0 H0 [] ∧ 0 ≤ a1.toInt ∧ a1.toInt ≤ 1599 ∧ n2 ≤ 1000)) (va_Qi (S := Unit) (fun r u => (r = 0 ∨ r = 1) ∧ (True)) (fun u t => jRt (dC, dI) B base G0 EX13_isNamed H0 [] t.heap) (jA base)) 0 0 (jA base) := by
  refine Met.ofW (cc := cX13_isNamed) (maxL := 5) (ret := (some .boolean)) (by decide) rfl ?_
  intro p e s m args below meth c s₁ Bd hml hv
  obtain ⟨rfl, hH0, hX, hG, hstr_r2, hg_r0, hP0, hp0, hp1, hp2⟩ := hv
  have hK := hG.1
  have hx := Bd.exec
  have hb := Bd.bytes
  have hr := Bd.returns
  have hts := atoms_spec (ws := (jw yX13_isNamed cX13_isNamed 5 (some .boolean))) Bd.pre
  have htw : ∀ w ∈ jWl, w.before _ s = true := fun w h => hts w (List.mem_cons_of_mem _ h)
  have hown : s.vm.findClass RX13 = some m.cls := findClass_of_methodNamed Bd.named
  have hlocks := Bd.notSynchronized
  obtain ⟨Q, hQ⟩ : ∃ Q, Q = MQ below (va_Qi (S := Unit) (fun r u => (r = 0 ∨ r = 1) ∧ (True)) (fun u t => jRt (dC, dI) B base G0 EX13_isNamed H0 [] t.heap) (jA base)) ([.ref r0, .int a1, .ref r2] : List Value).toArray s 0 0 (jA base) := ⟨_, rfl⟩
  rw [← hQ]
  have hl := lv_entry ([.ref r0, .int a1, .ref r2]) (n := 5) (Nat.le_of_ble_eq_true rfl)
  rw [lg_entry_eq]
  generalize (lg_sl ([.ref r0, .int a1, .ref r2]) ++ List.replicate (5 - (lg_sl ([.ref r0, .int a1, .ref r2])).length) Slot.unset).toArray = ls at hl ⊢
  have hl : lv_has ls 5 [(0, .ref r0), (1, .int a1), (2, .ref r2)] := hl
  generalize hR : (headSpec (jw yX13_isNamed cX13_isNamed 5 (some .boolean)) ({ frames := 4, cells := 0, slots := 0, locals := 141 })).room = R
  subst hH0
  have hh : jSt (dC, dI) B base G0 G0 EX13_isNamed s.heap 0 0 [] [] [] s.heap [] := jSt.start hX hP0 jMc.nil jIs.nil
  clear hX hP0
  have hk0 : (0 : Int32).toInt = 0 := by decide
  have hk1 : (1 : Int32).toInt = 1 := by decide
  have hly_15_6 := htw (u_lay RX13 TX13 6) (jWc_wsX130 _ (u_in_lay (by decide)))
  have hly_15_8 := htw (u_lay RX13 TX13 8) (jWc_wsX130 _ (u_in_lay (by decide)))
  have hly_15_9 := htw (u_lay RX13 TX13 9) (jWc_wsX130 _ (u_in_lay (by decide)))
  have hlk_34 := (htw (.fieldLink RX13 34 "ProofServerModel$Kernel" "nameLength" "[I") (jWr_14 _ (List.mem_of_getElem? (i := 16) rfl)))
  have hlk_28 := (htw (.fieldLink RX13 28 "ProofServerModel$Kernel" "signs" "[I") (jWr_14 _ (List.mem_of_getElem? (i := 14) rfl)))
  have hlk_31 := (htw (.fieldLink RX13 31 "ProofServerModel$Kernel" "nameAt" "[I") (jWr_14 _ (List.mem_of_getElem? (i := 15) rfl)))
  have hrg_a1 := jb_rng a1
  refine lv_aload_n hx hb dX13_isNamed_0 rfl (lv_at hl 0 rfl) ?_
  obtain ⟨v_1, hv_1, hh_2⟩ := hh.pin (C := RX13) (T := TX13) (N := 50) hB15 rfl (by decide) hg_r0 (i := 9) (by decide) rfl
  clear hh
  obtain ⟨nameLength_3, rfl, hg_nameLength_3⟩ := hv_1
  refine j7_read hx hb hown hK (C := RX13) (T := TX13) (N := 50) rfl hly_15_9 hlk_34 (hh_2.at 0 rfl) dX13_isNamed_1 ?_
  refine lv_iload_n hx hb dX13_isNamed_4 rfl (lv_at hl 1 rfl) ?_
  refine j7_iald hx hb hK hh_2 hB156 1 rfl (by decide) hg_nameLength_3 (x := a1.toInt) (rfl) (by omega) dX13_isNamed_5 (fun z_4 (hz_4 : 0 ≤ z_4.toInt ∧ z_4.toInt ≤ 10) => ?_)
  refine lv_aload_n hx hb dX13_isNamed_6 rfl (lv_at hl 2 rfl) ?_
  refine vp_callSi (W.runV (As := []) (rest := [.int z_4]) ⟨hx, hb, hml, hown, hts⟩ (wJ0_length_8abf5 l dC dI ca base s.heap r2 n2) (cwV 0 hts (jgV (jWr_61 _ (List.mem_of_getElem? (i := 4) rfl)) (jWr_5 _ (List.mem_of_getElem? (i := 13) rfl)) (jWr_5 _ (List.mem_of_getElem? (i := 14) rfl)) (jWr_5 _ (List.mem_of_getElem? (i := 15) rfl)) (jWr_5 _ (List.mem_of_getElem? (i := 16) rfl))) rfl rfl rfl (by decide +kernel) ⟨by rw [← hR]; exact Nat.le_of_ble_eq_true rfl, by rw [← hR]; exact Nat.le_of_ble_eq_true rfl⟩) ⟨fun a U g mk q => by obtain ⟨q0, q1, q2, qK, q9⟩ := q; exact ⟨q0, q1, (q2.moved (Vm.Alike.refl U.vm)), jG.calling g mk a qK, q9⟩, jStr_recv hstr_r2 hh_2.1, fun U hU hW => ⟨rfl, hU, (hstr_r2.moved hW.alike).kept hh_2.1.2.1, hG.step hW hU hh_2.1, by omega⟩⟩ rfl rfl hl.1 rfl (lv_room (Nat.le_of_ble_eq_true rfl)) dX13_isNamed_7 ⟨Nat.zero_le _, Nat.zero_le _⟩) (fun r_5 hr_5 => ?_)
  have C18 : ∀ (w0_6 : Int32) (H_6 : Heap) (locs_6 : List Loc), jSt (dC, dI) B base G0 G0 EX13_isNamed s.heap 0 0 [(r0, 15, 9, .ref nameLength_3)] [] [] H_6 locs_6 → (w0_6 = 0 ∨ w0_6 = 1) → (w0_6.toInt = 0 ∨ n2 ≤ 10) → ∀ ls : Array Slot, lv_has ls 5 [(0, .ref r0), (1, .int a1), (2, .ref r2)] → W p l e R s m ([.ref r0, .int a1, .ref r2] : List Value).toArray below meth c H_6 locs_6 0 0 Q (F0 m 18 ls [.int w0_6]) := by
    intro w0_6 H_6 locs_6 hh_6 hb_w0_6 hi_6 ls hl
    have hb_w0_6' := jb_01 hb_w0_6
    refine lv_istore_n (lv' := [(3, .int w0_6), (0, .ref r0), (1, .int a1), (2, .ref r2)]) hx hb dX13_isNamed_18 rfl hl (by decide) rfl (fun ls hl => ?_)
    refine lv_iconst (v := 0) hx hb dX13_isNamed_19 (by decide) ?_
    refine lv_istore (lv' := [(4, .int 0), (3, .int w0_6), (0, .ref r0), (1, .int a1), (2, .ref r2)]) hx hb dX13_isNamed_20 hl (by decide) rfl (fun ls hl => ?_)
    have L22 : ∀ (N : Nat) (v3_7 : Int32) (v4_7 : Int32) (H_7 : Heap) (locs_7 : List Loc), jSt (dC, dI) B base G0 G0 EX13_isNamed s.heap 0 0 [(r0, 15, 9, .ref nameLength_3)] [] [] H_7 locs_7 → (v3_7 = 0 ∨ v3_7 = 1) → (0 ≤ v4_7.toInt ∧ v4_7.toInt ≤ n2 ∧ (v3_7.toInt = 0 ∨ n2 ≤ 10)) → (n2 - v4_7.toInt : Int) < N → ∀ ls : Array Slot, lv_has ls 5 [(0, .ref r0), (1, .int a1), (2, .ref r2), (3, .int v3_7), (4, .int v4_7)] → W p l e R s m ([.ref r0, .int a1, .ref r2] : List Value).toArray below meth c H_7 locs_7 0 0 Q (F0 m 22 ls []) := by
      intro N
      induction N with
      | zero => intro v3_7 v4_7 H_7 locs_7 hh_7 hb_v3_7 hi_7 hm; exact absurd hm (by omega)
      | succ N L22 =>
        intro v3_7 v4_7 H_7 locs_7 hh_7 hb_v3_7 hi_7 hm_7 ls hl
        obtain ⟨hi_7_0, hi_7_1, hi_7_2⟩ := hi_7
        have hb_v3_7' := jb_01 hb_v3_7
        refine lv_iload hx hb dX13_isNamed_22 (lv_at hl 4 rfl) ?_
        refine lv_aload_n hx hb dX13_isNamed_24 rfl (lv_at hl 2 rfl) ?_
        refine vp_callSi (W.runV (As := []) (rest := [.int v4_7]) ⟨hx, hb, hml, hown, hts⟩ (wJ0_length_8abf5 l dC dI ca base H_7 r2 n2) (cwV 0 hts (jgV (jWr_61 _ (List.mem_of_getElem? (i := 4) rfl)) (jWr_5 _ (List.mem_of_getElem? (i := 13) rfl)) (jWr_5 _ (List.mem_of_getElem? (i := 14) rfl)) (jWr_5 _ (List.mem_of_getElem? (i := 15) rfl)) (jWr_5 _ (List.mem_of_getElem? (i := 16) rfl))) rfl rfl rfl (by decide +kernel) ⟨by rw [← hR]; exact Nat.le_of_ble_eq_true rfl, by rw [← hR]; exact Nat.le_of_ble_eq_true rfl⟩) ⟨fun a U g mk q => by obtain ⟨q0, q1, q2, qK, q9⟩ := q; exact ⟨q0, q1, (q2.moved (Vm.Alike.refl U.vm)), jG.calling g mk a qK, q9⟩, jStr_recv hstr_r2 hh_7.1, fun U hU hW => ⟨rfl, hU, (hstr_r2.moved hW.alike).kept hh_7.1.2.1, hG.step hW hU hh_7.1, by omega⟩⟩ rfl rfl hl.1 rfl (lv_room (Nat.le_of_ble_eq_true rfl)) dX13_isNamed_25 ⟨Nat.zero_le _, Nat.zero_le _⟩) (fun r_8 hr_8 => ?_)
        refine lv_icmp_ge (tgt := 70) hx hb dX13_isNamed_28 (by decide) (fun c_9 => ?_) (fun c_9 => ?_)
        · skip
          have c_9' : v4_7.toInt ≥ r_8.toInt := jb_ge (rfl) (rfl) c_9
          refine lv_iload_n hx hb dX13_isNamed_70 rfl (lv_at hl 3 rfl) ?_
          rw [hQ]
          exact W.zret (v := v3_7) hx hb hr (jb_nz (hb_v3_7)) (fun t ht hW => ⟨⟨v3_7, (), rfl, ⟨(hb_v3_7), trivial⟩, hh_7.rt (M1 := []) [] rfl ht⟩, by rw [ht]; try exact hh_7.1.1, fun q h9 hq => by rw [ht]; try exact hh_7.1.2.1 q h9 hq⟩) hh_7.1.2.2 dX13_isNamed_71
        · skip
          have c_9' : v4_7.toInt < r_8.toInt := jb_ge_n (rfl) (rfl) c_9
          refine lv_iload_n hx hb dX13_isNamed_31 rfl (lv_at hl 3 rfl) ?_
          refine lv_if_eq (tgt := 70) hx hb dX13_isNamed_32 (by decide) (fun c_10 => ?_) (fun c_10 => ?_)
          · skip
            have c_10' : v3_7.toInt = 0 := jb_eq (rfl) ((by decide)) c_10
            refine lv_iload_n hx hb dX13_isNamed_70 rfl (lv_at hl 3 rfl) ?_
            rw [hQ]
            exact W.zret (v := v3_7) hx hb hr (jb_nz (hb_v3_7)) (fun t ht hW => ⟨⟨v3_7, (), rfl, ⟨(hb_v3_7), trivial⟩, hh_7.rt (M1 := []) [] rfl ht⟩, by rw [ht]; try exact hh_7.1.1, fun q h9 hq => by rw [ht]; try exact hh_7.1.2.1 q h9 hq⟩) hh_7.1.2.2 dX13_isNamed_71
          · skip
            have c_10' : v3_7.toInt ≠ 0 := jb_eq_n (rfl) ((by decide)) c_10
            refine lv_aload_n hx hb dX13_isNamed_35 rfl (lv_at hl 0 rfl) ?_
            obtain ⟨v_11, hv_11, hh_12⟩ := hh_7.pin (C := RX13) (T := TX13) (N := 50) hB15 rfl (by decide) hg_r0 (i := 6) (by decide) rfl
            clear hh_7
            obtain ⟨signs_13, rfl, hg_signs_13⟩ := hv_11
            refine j7_read hx hb hown hK (C := RX13) (T := TX13) (N := 50) rfl hly_15_6 hlk_28 (hh_12.at 0 rfl) dX13_isNamed_36 ?_
            refine lv_aload_n hx hb dX13_isNamed_39 rfl (lv_at hl 0 rfl) ?_
            obtain ⟨v_14, hv_14, hh_15⟩ := hh_12.pin (C := RX13) (T := TX13) (N := 50) hB15 rfl (by decide) hg_r0 (i := 8) (by decide) rfl
            clear hh_12
            obtain ⟨nameAt_16, rfl, hg_nameAt_16⟩ := hv_14
            refine j7_read hx hb hown hK (C := RX13) (T := TX13) (N := 50) rfl hly_15_8 hlk_31 (hh_15.at 0 rfl) dX13_isNamed_40 ?_
            refine lv_iload_n hx hb dX13_isNamed_43 rfl (lv_at hl 1 rfl) ?_
            refine j7_iald hx hb hK hh_15 hB155 1 rfl (by decide) hg_nameAt_16 (x := a1.toInt) (rfl) (by omega) dX13_isNamed_44 (fun z_17 (hz_17 : 0 ≤ z_17.toInt ∧ z_17.toInt ≤ 11990) => ?_)
            refine lv_iload hx hb dX13_isNamed_45 (lv_at hl 4 rfl) ?_
            refine lv_iadd hx hb dX13_isNamed_47 ?_
            refine lv_topi (fun z_18 ez_18 => ?_)
            have hz_18 : z_18.toInt = z_17.toInt + v4_7.toInt := by rw [ez_18]; exact jb_iadd2 (rfl) (rfl) (by omega)
            refine j7_iald hx hb hK hh_15 hB166 1 rfl (by decide) hg_signs_13 (x := z_18.toInt) (rfl) (by omega) dX13_isNamed_48 (fun z_19 (hz_19 : True) => ?_)
            refine lv_aload_n hx hb dX13_isNamed_49 rfl (lv_at hl 2 rfl) ?_
            refine lv_iload hx hb dX13_isNamed_50 (lv_at hl 4 rfl) ?_
            refine vp_callSi (W.runV (As := [.int v4_7]) (rest := [.int z_19]) ⟨hx, hb, hml, hown, hts⟩ (wJ0_charAt_5068e l dC dI ca base H_7 r2 n2 v4_7) (cwV 1 hts (jgV (jWr_61 _ (List.mem_of_getElem? (i := 6) rfl)) (jWr_6 _ (List.mem_of_getElem? (i := 1) rfl)) (jWr_6 _ (List.mem_of_getElem? (i := 2) rfl)) (jWr_5 _ (List.mem_of_getElem? (i := 15) rfl)) (jWr_6 _ (List.mem_of_getElem? (i := 3) rfl))) rfl rfl rfl (by decide +kernel) ⟨by rw [← hR]; exact Nat.le_of_ble_eq_true rfl, by rw [← hR]; exact Nat.le_of_ble_eq_true rfl⟩) ⟨fun a U g mk q => by obtain ⟨q0, q1, q2, qK, q9⟩ := q; exact ⟨q0, q1, (q2.moved (Vm.Alike.refl U.vm)), jG.calling g mk a qK, q9⟩, jStr_recv hstr_r2 hh_15.1, fun U hU hW => ⟨rfl, hU, (hstr_r2.moved hW.alike).kept hh_15.1.2.1, hG.step hW hU hh_15.1, ⟨by omega, by omega, by omega⟩⟩⟩ rfl rfl hl.1 rfl (lv_room (Nat.le_of_ble_eq_true rfl)) dX13_isNamed_52 ⟨Nat.zero_le _, Nat.zero_le _⟩) (fun r_20 hr_20 => ?_)
            refine lv_icmp_ne (tgt := 62) hx hb dX13_isNamed_55 (by decide) (fun c_21 => ?_) (fun c_21 => ?_)
            · skip
              have c_21' : z_19.toInt ≠ r_20.toInt := jb_ne (rfl) (rfl) c_21
              refine lv_iconst (v := 0) hx hb dX13_isNamed_62 (by decide) ?_
              refine lv_istore_n (lv' := [(3, .int 0), (0, .ref r0), (1, .int a1), (2, .ref r2), (4, .int v4_7)]) hx hb dX13_isNamed_63 rfl hl (by decide) rfl (fun ls hl => ?_)
              obtain ⟨z_22, ez_22⟩ : ∃ y : Int32, y = v4_7 + 1 := ⟨_, rfl⟩
              refine lv_iinc (v := z_22) (lv' := [(4, .int z_22), (3, .int 0), (0, .ref r0), (1, .int a1), (2, .ref r2)]) hx hb dX13_isNamed_64 hl (k := 4) rfl (by rw [ez_22]; rfl) (by decide) rfl (fun ls hl => ?_)
              have hz_22 : z_22.toInt = v4_7.toInt + 1 := by rw [ez_22]; exact jb_iadd2 (rfl) (by decide) (by omega)
              refine lv_goto (tgt := 22) hx hb dX13_isNamed_67 (by decide) ?_
              exact L22 0 z_22 _ _ (hh_15.sub (L1 := [(r0, 15, 9, .ref nameLength_3)]) [2] rfl (M1 := []) [] rfl (I1 := []) [] rfl) (Or.inl rfl) (by first | omega | (refine ⟨?_, ?_, ?_⟩ <;> (first | omega | rfl | assumption | decide | exact Or.inl rfl | exact Or.inr rfl | (simp only; omega)))) (by omega) _ (lv_sub hl [2, 3, 4, 1, 0] rfl)
            · skip
              have c_21' : z_19.toInt = r_20.toInt := jb_ne_n (rfl) (rfl) c_21
              refine lv_iconst (v := 1) hx hb dX13_isNamed_58 (by decide) ?_
              refine lv_goto (tgt := 63) hx hb dX13_isNamed_59 (by decide) ?_
              refine lv_istore_n (lv' := [(3, .int 1), (0, .ref r0), (1, .int a1), (2, .ref r2), (4, .int v4_7)]) hx hb dX13_isNamed_63 rfl hl (by decide) rfl (fun ls hl => ?_)
              obtain ⟨z_23, ez_23⟩ : ∃ y : Int32, y = v4_7 + 1 := ⟨_, rfl⟩
              refine lv_iinc (v := z_23) (lv' := [(4, .int z_23), (3, .int 1), (0, .ref r0), (1, .int a1), (2, .ref r2)]) hx hb dX13_isNamed_64 hl (k := 4) rfl (by rw [ez_23]; rfl) (by decide) rfl (fun ls hl => ?_)
              have hz_23 : z_23.toInt = v4_7.toInt + 1 := by rw [ez_23]; exact jb_iadd2 (rfl) (by decide) (by omega)
              refine lv_goto (tgt := 22) hx hb dX13_isNamed_67 (by decide) ?_
              exact L22 1 z_23 _ _ (hh_15.sub (L1 := [(r0, 15, 9, .ref nameLength_3)]) [2] rfl (M1 := []) [] rfl (I1 := []) [] rfl) (Or.inr rfl) (by first | omega | (refine ⟨?_, ?_, ?_⟩ <;> (first | omega | rfl | assumption | decide | exact Or.inl rfl | exact Or.inr rfl | (simp only; omega)))) (by omega) _ (lv_sub hl [2, 3, 4, 1, 0] rfl)
    exact L22 (n2 - (0 : Int32).toInt : Int).toNat.succ w0_6 0 _ _ hh_6 (hb_w0_6) (by first | omega | (refine ⟨?_, ?_, ?_⟩ <;> (first | omega | rfl | assumption | decide | exact Or.inl rfl | exact Or.inr rfl | (simp only; omega)))) (by omega) _ (lv_sub hl [2, 3, 4, 1, 0] rfl)
  refine lv_icmp_ne (tgt := 17) hx hb dX13_isNamed_10 (by decide) (fun c_24 => ?_) (fun c_24 => ?_)
  · skip
    have c_24' : z_4.toInt ≠ r_5.toInt := jb_ne (rfl) (rfl) c_24
    refine lv_iconst (v := 0) hx hb dX13_isNamed_17 (by decide) ?_
    exact C18 0 _ _ hh_2 (Or.inl rfl) (by first | omega | rfl | assumption | decide | exact Or.inl rfl | exact Or.inr rfl | (simp only; omega)) _ (lv_sub hl [0, 1, 2] rfl)
  · skip
    have c_24' : z_4.toInt = r_5.toInt := jb_ne_n (rfl) (rfl) c_24
    refine lv_iconst (v := 1) hx hb dX13_isNamed_13 (by decide) ?_
    refine lv_goto (tgt := 18) hx hb dX13_isNamed_14 (by decide) ?_
    exact C18 1 _ _ hh_2 (Or.inr rfl) (by first | omega | rfl | assumption | decide | exact Or.inl rfl | exact Or.inr rfl | (simp only; omega)) _ (lv_sub hl [0, 1, 2] rfl)
set_option maxHeartbeats 4000000 in
set_option maxRecDepth 20000 in
theorem uX13_node (l : Launch) (dC : Nat → ClassId) (dI : Nat → Nat → Nat) (ca : Nat → ClassId) (base : Nat) (B : jF) (hB : jBok B) (hAp : jAp (dC, dI)) (hB15 : ∀ n G a H, B 15 n G a H ↔ jOb (dC, dI) 15 50 (F15 n G) a H) (hB150 : ∀ n G a H, B 150 n G a H ↔ jAr (dC, dI) (ca 1) (fun j z => True) n a H) (hB151 : ∀ n G a H, B 151 n G a H ↔ jAr (dC, dI) (ca 1) (fun j z => True) n a H) (hB152 : ∀ n G a H, B 152 n G a H ↔ jAr (dC, dI) (ca 1) (fun j z => True) n a H) (hB153 : ∀ n G a H, B 153 n G a H ↔ jAr (dC, dI) (ca 1) (fun j z => True) n a H) (hB154 : ∀ n G a H, B 154 n G a H ↔ jAr (dC, dI) (ca 1) (fun j z => True) n a H) (G0 : jT) (H0 : Heap) (r0 : Nat) (a1 : Int32) (a2 : Int32) (a3 : Int32) (a4 : Int32) (a5 : Int32) (pn : Int32) : Met l yX13_node (jw yX13_node cX13_node 6 (some .int)) ({ frames := 0, cells := 0, slots := 0, locals := 0 }) (va_Pc [.ref r0, .int a1, .int a2, .int a3, .int a4, .int a5] (fun U => U.heap = H0 ∧ jX B base G0 [] H0 ∧ jG dC dI ca base U ∧ G0 r0 = some (15, 0) ∧ jP (dC, dI) G0 H0 [(r0, 15, 5, .int pn)] ∧ 0 ≤ pn.toInt ∧ pn.toInt ≤ 119999)) (va_Qi (S := Int32) (fun r u => (r.toInt = pn.toInt ∧ u.toInt = pn.toInt + 1)) (fun u t => jRt (dC, dI) B base G0 EX13_node H0 [(r0, 15, 5, .int u)] t.heap) (jA base)) 0 0 (jA base) := by
  refine Met.ofW (cc := cX13_node) (maxL := 6) (ret := (some .int)) (by decide) rfl ?_
  intro p e s m args below meth c s₁ Bd hml hv
  obtain ⟨rfl, hH0, hX, hG, hg_r0, hP0, hp0, hp1⟩ := hv
  have hK := hG.1
  have hx := Bd.exec
  have hb := Bd.bytes
  have hr := Bd.returns
  have hts := atoms_spec (ws := (jw yX13_node cX13_node 6 (some .int))) Bd.pre
  have htw : ∀ w ∈ jWl, w.before _ s = true := fun w h => hts w (List.mem_cons_of_mem _ h)
  have hown : s.vm.findClass RX13 = some m.cls := findClass_of_methodNamed Bd.named
  have hlocks := Bd.notSynchronized
  obtain ⟨Q, hQ⟩ : ∃ Q, Q = MQ below (va_Qi (S := Int32) (fun r u => (r.toInt = pn.toInt ∧ u.toInt = pn.toInt + 1)) (fun u t => jRt (dC, dI) B base G0 EX13_node H0 [(r0, 15, 5, .int u)] t.heap) (jA base)) ([.ref r0, .int a1, .int a2, .int a3, .int a4, .int a5] : List Value).toArray s 0 0 (jA base) := ⟨_, rfl⟩
  rw [← hQ]
  have hl := lv_entry ([.ref r0, .int a1, .int a2, .int a3, .int a4, .int a5]) (n := 6) (Nat.le_of_ble_eq_true rfl)
  rw [lg_entry_eq]
  generalize (lg_sl ([.ref r0, .int a1, .int a2, .int a3, .int a4, .int a5]) ++ List.replicate (6 - (lg_sl ([.ref r0, .int a1, .int a2, .int a3, .int a4, .int a5])).length) Slot.unset).toArray = ls at hl ⊢
  have hl : lv_has ls 6 [(0, .ref r0), (1, .int a1), (2, .int a2), (3, .int a3), (4, .int a4), (5, .int a5)] := hl
  generalize hR : (headSpec (jw yX13_node cX13_node 6 (some .int)) ({ frames := 0, cells := 0, slots := 0, locals := 0 })).room = R
  subst hH0
  have hh : jSt (dC, dI) B base G0 G0 EX13_node s.heap 0 0 [(r0, 15, 5, .int pn)] [] [] s.heap [] := jSt.start hX hP0 jMc.nil jIs.nil
  clear hX hP0
  have hk0 : (0 : Int32).toInt = 0 := by decide
  have hk1 : (1 : Int32).toInt = 1 := by decide
  have hly_15_0 := htw (u_lay RX13 TX13 0) (jWc_wsX130 _ (u_in_lay (by decide)))
  have hly_15_1 := htw (u_lay RX13 TX13 1) (jWc_wsX130 _ (u_in_lay (by decide)))
  have hly_15_2 := htw (u_lay RX13 TX13 2) (jWc_wsX130 _ (u_in_lay (by decide)))
  have hly_15_3 := htw (u_lay RX13 TX13 3) (jWc_wsX130 _ (u_in_lay (by decide)))
  have hly_15_4 := htw (u_lay RX13 TX13 4) (jWc_wsX130 _ (u_in_lay (by decide)))
  have hly_15_5 := htw (u_lay RX13 TX13 5) (jWc_wsX130 _ (u_in_lay (by decide)))
  have hlk_12 := (htw (.fieldLink RX13 12 "ProofServerModel$Kernel" "sort" "[I") (jWr_14 _ (List.mem_of_getElem? (i := 9) rfl)))
  have hlk_99 := (htw (.fieldLink RX13 99 "ProofServerModel$Kernel" "nodes" "I") (jWr_59 _ (List.mem_of_getElem? (i := 14) rfl)))
  have hlk_16 := (htw (.fieldLink RX13 16 "ProofServerModel$Kernel" "name" "[I") (jWr_14 _ (List.mem_of_getElem? (i := 10) rfl)))
  have hlk_19 := (htw (.fieldLink RX13 19 "ProofServerModel$Kernel" "one" "[I") (jWr_14 _ (List.mem_of_getElem? (i := 11) rfl)))
  have hlk_22 := (htw (.fieldLink RX13 22 "ProofServerModel$Kernel" "two" "[I") (jWr_14 _ (List.mem_of_getElem? (i := 12) rfl)))
  have hlk_25 := (htw (.fieldLink RX13 25 "ProofServerModel$Kernel" "three" "[I") (jWr_14 _ (List.mem_of_getElem? (i := 13) rfl)))
  have hrg_a1 := jb_rng a1
  have hrg_a2 := jb_rng a2
  have hrg_a3 := jb_rng a3
  have hrg_a4 := jb_rng a4
  have hrg_a5 := jb_rng a5
  refine lv_aload_n hx hb dX13_node_0 rfl (lv_at hl 0 rfl) ?_
  obtain ⟨v_1, hv_1, hh_2⟩ := hh.pin (C := RX13) (T := TX13) (N := 50) hB15 rfl (by decide) hg_r0 (i := 0) (by decide) rfl
  clear hh
  obtain ⟨sort_3, rfl, hg_sort_3⟩ := hv_1
  refine j7_read hx hb hown hK (C := RX13) (T := TX13) (N := 50) rfl hly_15_0 hlk_12 (hh_2.at 0 rfl) dX13_node_1 ?_
  refine lv_aload_n hx hb dX13_node_4 rfl (lv_at hl 0 rfl) ?_
  refine j7_read hx hb hown hK (C := RX13) (T := TX13) (N := 50) rfl hly_15_5 hlk_99 (hh_2.at 1 rfl) dX13_node_5 ?_
  refine lv_iload_n hx hb dX13_node_8 rfl (lv_at hl 1 rfl) ?_
  refine j7_iast hx hb hK hh_2 hB hB150 1 rfl (by decide) (by decide) rfl rfl rfl hg_sort_3 (x := pn.toInt) (rfl) (by omega) (trivial) dX13_node_9 (fun H_4 locs_4 hh_4 => ?_)
  clear hh_2
  refine lv_aload_n hx hb dX13_node_10 rfl (lv_at hl 0 rfl) ?_
  obtain ⟨v_5, hv_5, hh_6⟩ := hh_4.pin (C := RX13) (T := TX13) (N := 50) hB15 rfl (by decide) hg_r0 (i := 1) (by decide) rfl
  clear hh_4
  obtain ⟨name_7, rfl, hg_name_7⟩ := hv_5
  refine j7_read hx hb hown hK (C := RX13) (T := TX13) (N := 50) rfl hly_15_1 hlk_16 (hh_6.at 0 rfl) dX13_node_11 ?_
  refine lv_aload_n hx hb dX13_node_14 rfl (lv_at hl 0 rfl) ?_
  refine j7_read hx hb hown hK (C := RX13) (T := TX13) (N := 50) rfl hly_15_5 hlk_99 (hh_6.at 2 rfl) dX13_node_15 ?_
  refine lv_iload_n hx hb dX13_node_18 rfl (lv_at hl 2 rfl) ?_
  refine j7_iast hx hb hK hh_6 hB hB151 1 rfl (by decide) (by decide) rfl rfl rfl hg_name_7 (x := pn.toInt) (rfl) (by omega) (trivial) dX13_node_19 (fun H_8 locs_8 hh_8 => ?_)
  clear hh_6
  refine lv_aload_n hx hb dX13_node_20 rfl (lv_at hl 0 rfl) ?_
  obtain ⟨v_9, hv_9, hh_10⟩ := hh_8.pin (C := RX13) (T := TX13) (N := 50) hB15 rfl (by decide) hg_r0 (i := 2) (by decide) rfl
  clear hh_8
  obtain ⟨one_11, rfl, hg_one_11⟩ := hv_9
  refine j7_read hx hb hown hK (C := RX13) (T := TX13) (N := 50) rfl hly_15_2 hlk_19 (hh_10.at 0 rfl) dX13_node_21 ?_
  refine lv_aload_n hx hb dX13_node_24 rfl (lv_at hl 0 rfl) ?_
  refine j7_read hx hb hown hK (C := RX13) (T := TX13) (N := 50) rfl hly_15_5 hlk_99 (hh_10.at 3 rfl) dX13_node_25 ?_
  refine lv_iload_n hx hb dX13_node_28 rfl (lv_at hl 3 rfl) ?_
  refine j7_iast hx hb hK hh_10 hB hB152 1 rfl (by decide) (by decide) rfl rfl rfl hg_one_11 (x := pn.toInt) (rfl) (by omega) (trivial) dX13_node_29 (fun H_12 locs_12 hh_12 => ?_)
  clear hh_10
  refine lv_aload_n hx hb dX13_node_30 rfl (lv_at hl 0 rfl) ?_
  obtain ⟨v_13, hv_13, hh_14⟩ := hh_12.pin (C := RX13) (T := TX13) (N := 50) hB15 rfl (by decide) hg_r0 (i := 3) (by decide) rfl
  clear hh_12
  obtain ⟨two_15, rfl, hg_two_15⟩ := hv_13
  refine j7_read hx hb hown hK (C := RX13) (T := TX13) (N := 50) rfl hly_15_3 hlk_22 (hh_14.at 0 rfl) dX13_node_31 ?_
  refine lv_aload_n hx hb dX13_node_34 rfl (lv_at hl 0 rfl) ?_
  refine j7_read hx hb hown hK (C := RX13) (T := TX13) (N := 50) rfl hly_15_5 hlk_99 (hh_14.at 4 rfl) dX13_node_35 ?_
  refine lv_iload hx hb dX13_node_38 (lv_at hl 4 rfl) ?_
  refine j7_iast hx hb hK hh_14 hB hB153 1 rfl (by decide) (by decide) rfl rfl rfl hg_two_15 (x := pn.toInt) (rfl) (by omega) (trivial) dX13_node_40 (fun H_16 locs_16 hh_16 => ?_)
  clear hh_14
  refine lv_aload_n hx hb dX13_node_41 rfl (lv_at hl 0 rfl) ?_
  obtain ⟨v_17, hv_17, hh_18⟩ := hh_16.pin (C := RX13) (T := TX13) (N := 50) hB15 rfl (by decide) hg_r0 (i := 4) (by decide) rfl
  clear hh_16
  obtain ⟨three_19, rfl, hg_three_19⟩ := hv_17
  refine j7_read hx hb hown hK (C := RX13) (T := TX13) (N := 50) rfl hly_15_4 hlk_25 (hh_18.at 0 rfl) dX13_node_42 ?_
  refine lv_aload_n hx hb dX13_node_45 rfl (lv_at hl 0 rfl) ?_
  refine j7_read hx hb hown hK (C := RX13) (T := TX13) (N := 50) rfl hly_15_5 hlk_99 (hh_18.at 5 rfl) dX13_node_46 ?_
  refine lv_iload hx hb dX13_node_49 (lv_at hl 5 rfl) ?_
  refine j7_iast hx hb hK hh_18 hB hB154 1 rfl (by decide) (by decide) rfl rfl rfl hg_three_19 (x := pn.toInt) (rfl) (by omega) (trivial) dX13_node_51 (fun H_20 locs_20 hh_20 => ?_)
  clear hh_18
  refine lv_aload_n hx hb dX13_node_52 rfl (lv_at hl 0 rfl) ?_
  refine lv_dup hx hb dX13_node_53 rfl ?_
  refine j7_read hx hb hown hK (C := RX13) (T := TX13) (N := 50) rfl hly_15_5 hlk_99 (hh_20.at 5 rfl) dX13_node_54 ?_
  refine lv_iconst (v := 1) hx hb dX13_node_57 (by decide) ?_
  refine lv_iadd hx hb dX13_node_58 ?_
  refine lv_topi (fun z_21 ez_21 => ?_)
  have hz_21 : z_21.toInt = pn.toInt + 1 := by rw [ez_21]; exact jb_iadd2 (rfl) ((by decide)) (by omega)
  refine j7_put hx hb hown hK hh_20 hB hAp hB15 (C := RX13) (T := TX13) (N := 50) rfl (by decide) hg_r0 (i := 5) (by decide) hly_15_5 rfl hlk_99 rfl (ty := .int) (v := .int z_21) (by decide +kernel) rfl rfl (⟨_, rfl, by omega, by omega⟩) rfl (L1 := [(r0, 15, 4, .ref three_19), (r0, 15, 3, .ref two_15), (r0, 15, 2, .ref one_11), (r0, 15, 1, .ref name_7), (r0, 15, 0, .ref sort_3)]) [0, 1, 2, 3, 4] rfl rfl rfl dX13_node_59 (fun H_22 locs_22 hh_22 => ?_)
  clear hh_20
  refine lv_aload_n hx hb dX13_node_62 rfl (lv_at hl 0 rfl) ?_
  refine j7_read hx hb hown hK (C := RX13) (T := TX13) (N := 50) rfl hly_15_5 hlk_99 (hh_22.at 0 rfl) dX13_node_63 ?_
  refine lv_iconst (v := 1) hx hb dX13_node_66 (by decide) ?_
  refine lv_isub hx hb dX13_node_67 ?_
  refine lv_topi (fun z_23 ez_23 => ?_)
  have hz_23 : z_23.toInt = z_21.toInt - 1 := by rw [ez_23]; exact jb_isub2 (rfl) ((by decide)) (by omega)
  rw [hQ]
  exact W.iret (v := z_23) hx hb hr (fun t ht hW => ⟨⟨z_23, z_21, rfl, by first | omega | (refine ⟨?_, ?_⟩ <;> (first | omega | rfl | assumption | decide | exact Or.inl rfl | exact Or.inr rfl | (simp only; omega))), hh_22.rt (M1 := [(r0, 15, 5, .int z_21)]) [0] rfl ht⟩, by rw [ht]; try exact hh_22.1.1, fun q h9 hq => by rw [ht]; try exact hh_22.1.2.1 q h9 hq⟩) hh_22.1.2.2 dX13_node_68
set_option maxHeartbeats 4000000 in
set_option maxRecDepth 20000 in
theorem uX13_part (l : Launch) (dC : Nat → ClassId) (dI : Nat → Nat → Nat) (ca : Nat → ClassId) (base : Nat) (B : jF) (hB : jBok B) (hAp : jAp (dC, dI)) (hB15 : ∀ n G a H, B 15 n G a H ↔ jOb (dC, dI) 15 50 (F15 n G) a H) (hB152 : ∀ n G a H, B 152 n G a H ↔ jAr (dC, dI) (ca 1) (fun j z => True) n a H) (hB153 : ∀ n G a H, B 153 n G a H ↔ jAr (dC, dI) (ca 1) (fun j z => True) n a H) (hB154 : ∀ n G a H, B 154 n G a H ↔ jAr (dC, dI) (ca 1) (fun j z => True) n a H) (G0 : jT) (H0 : Heap) (r0 : Nat) (a1 : Int32) (a2 : Int32) : Met l yX13_part (jw yX13_part cX13_part 3 (some .int)) ({ frames := 0, cells := 0, slots := 0, locals := 0 }) (va_Pc [.ref r0, .int a1, .int a2] (fun U => U.heap = H0 ∧ jX B base G0 [] H0 ∧ jG dC dI ca base U ∧ G0 r0 = some (15, 0) ∧ jP (dC, dI) G0 H0 [] ∧ 0 ≤ a1.toInt ∧ a1.toInt ≤ 119999)) (va_Qi (S := Unit) (fun r u => (True)) (fun u t => jRt (dC, dI) B base G0 EX13_part H0 [] t.heap) (jA base)) 0 0 (jA base) := by
  refine Met.ofW (cc := cX13_part) (maxL := 3) (ret := (some .int)) (by decide) rfl ?_
  intro p e s m args below meth c s₁ Bd hml hv
  obtain ⟨rfl, hH0, hX, hG, hg_r0, hP0, hp0, hp1⟩ := hv
  have hK := hG.1
  have hx := Bd.exec
  have hb := Bd.bytes
  have hr := Bd.returns
  have hts := atoms_spec (ws := (jw yX13_part cX13_part 3 (some .int))) Bd.pre
  have htw : ∀ w ∈ jWl, w.before _ s = true := fun w h => hts w (List.mem_cons_of_mem _ h)
  have hown : s.vm.findClass RX13 = some m.cls := findClass_of_methodNamed Bd.named
  have hlocks := Bd.notSynchronized
  obtain ⟨Q, hQ⟩ : ∃ Q, Q = MQ below (va_Qi (S := Unit) (fun r u => (True)) (fun u t => jRt (dC, dI) B base G0 EX13_part H0 [] t.heap) (jA base)) ([.ref r0, .int a1, .int a2] : List Value).toArray s 0 0 (jA base) := ⟨_, rfl⟩
  rw [← hQ]
  have hl := lv_entry ([.ref r0, .int a1, .int a2]) (n := 3) (Nat.le_of_ble_eq_true rfl)
  rw [lg_entry_eq]
  generalize (lg_sl ([.ref r0, .int a1, .int a2]) ++ List.replicate (3 - (lg_sl ([.ref r0, .int a1, .int a2])).length) Slot.unset).toArray = ls at hl ⊢
  have hl : lv_has ls 3 [(0, .ref r0), (1, .int a1), (2, .int a2)] := hl
  generalize hR : (headSpec (jw yX13_part cX13_part 3 (some .int)) ({ frames := 0, cells := 0, slots := 0, locals := 0 })).room = R
  subst hH0
  have hh : jSt (dC, dI) B base G0 G0 EX13_part s.heap 0 0 [] [] [] s.heap [] := jSt.start hX hP0 jMc.nil jIs.nil
  clear hX hP0
  have hk0 : (0 : Int32).toInt = 0 := by decide
  have hk1 : (1 : Int32).toInt = 1 := by decide
  have hly_15_2 := htw (u_lay RX13 TX13 2) (jWc_wsX130 _ (u_in_lay (by decide)))
  have hly_15_3 := htw (u_lay RX13 TX13 3) (jWc_wsX130 _ (u_in_lay (by decide)))
  have hly_15_4 := htw (u_lay RX13 TX13 4) (jWc_wsX130 _ (u_in_lay (by decide)))
  have hlk_19 := (htw (.fieldLink RX13 19 "ProofServerModel$Kernel" "one" "[I") (jWr_14 _ (List.mem_of_getElem? (i := 11) rfl)))
  have hlk_22 := (htw (.fieldLink RX13 22 "ProofServerModel$Kernel" "two" "[I") (jWr_14 _ (List.mem_of_getElem? (i := 12) rfl)))
  have hlk_25 := (htw (.fieldLink RX13 25 "ProofServerModel$Kernel" "three" "[I") (jWr_14 _ (List.mem_of_getElem? (i := 13) rfl)))
  have hrg_a1 := jb_rng a1
  have hrg_a2 := jb_rng a2
  refine lv_iload_n hx hb dX13_part_0 rfl (lv_at hl 2 rfl) ?_
  refine lv_if_ne (tgt := 13) hx hb dX13_part_1 (by decide) (fun c_1 => ?_) (fun c_1 => ?_)
  · skip
    have c_1' : a2.toInt ≠ 0 := jb_ne (rfl) ((by decide)) c_1
    refine lv_iload_n hx hb dX13_part_13 rfl (lv_at hl 2 rfl) ?_
    refine lv_iconst (v := 1) hx hb dX13_part_14 (by decide) ?_
    refine lv_icmp_ne (tgt := 27) hx hb dX13_part_15 (by decide) (fun c_2 => ?_) (fun c_2 => ?_)
    · skip
      have c_2' : a2.toInt ≠ 1 := jb_ne (rfl) ((by decide)) c_2
      refine lv_aload_n hx hb dX13_part_27 rfl (lv_at hl 0 rfl) ?_
      obtain ⟨v_3, hv_3, hh_4⟩ := hh.pin (C := RX13) (T := TX13) (N := 50) hB15 rfl (by decide) hg_r0 (i := 4) (by decide) rfl
      clear hh
      obtain ⟨three_5, rfl, hg_three_5⟩ := hv_3
      refine j7_read hx hb hown hK (C := RX13) (T := TX13) (N := 50) rfl hly_15_4 hlk_25 (hh_4.at 0 rfl) dX13_part_28 ?_
      refine lv_iload_n hx hb dX13_part_31 rfl (lv_at hl 1 rfl) ?_
      refine j7_iald hx hb hK hh_4 hB154 1 rfl (by decide) hg_three_5 (x := a1.toInt) (rfl) (by omega) dX13_part_32 (fun z_6 (hz_6 : True) => ?_)
      rw [hQ]
      exact W.iret (v := z_6) hx hb hr (fun t ht hW => ⟨⟨z_6, (), rfl, trivial, hh_4.rt (M1 := []) [] rfl ht⟩, by rw [ht]; try exact hh_4.1.1, fun q h9 hq => by rw [ht]; try exact hh_4.1.2.1 q h9 hq⟩) hh_4.1.2.2 dX13_part_33
    · skip
      have c_2' : a2.toInt = 1 := jb_ne_n (rfl) ((by decide)) c_2
      refine lv_aload_n hx hb dX13_part_18 rfl (lv_at hl 0 rfl) ?_
      obtain ⟨v_7, hv_7, hh_8⟩ := hh.pin (C := RX13) (T := TX13) (N := 50) hB15 rfl (by decide) hg_r0 (i := 3) (by decide) rfl
      clear hh
      obtain ⟨two_9, rfl, hg_two_9⟩ := hv_7
      refine j7_read hx hb hown hK (C := RX13) (T := TX13) (N := 50) rfl hly_15_3 hlk_22 (hh_8.at 0 rfl) dX13_part_19 ?_
      refine lv_iload_n hx hb dX13_part_22 rfl (lv_at hl 1 rfl) ?_
      refine j7_iald hx hb hK hh_8 hB153 1 rfl (by decide) hg_two_9 (x := a1.toInt) (rfl) (by omega) dX13_part_23 (fun z_10 (hz_10 : True) => ?_)
      refine lv_goto (tgt := 33) hx hb dX13_part_24 (by decide) ?_
      rw [hQ]
      exact W.iret (v := z_10) hx hb hr (fun t ht hW => ⟨⟨z_10, (), rfl, trivial, hh_8.rt (M1 := []) [] rfl ht⟩, by rw [ht]; try exact hh_8.1.1, fun q h9 hq => by rw [ht]; try exact hh_8.1.2.1 q h9 hq⟩) hh_8.1.2.2 dX13_part_33
  · skip
    have c_1' : a2.toInt = 0 := jb_ne_n (rfl) ((by decide)) c_1
    refine lv_aload_n hx hb dX13_part_4 rfl (lv_at hl 0 rfl) ?_
    obtain ⟨v_11, hv_11, hh_12⟩ := hh.pin (C := RX13) (T := TX13) (N := 50) hB15 rfl (by decide) hg_r0 (i := 2) (by decide) rfl
    clear hh
    obtain ⟨one_13, rfl, hg_one_13⟩ := hv_11
    refine j7_read hx hb hown hK (C := RX13) (T := TX13) (N := 50) rfl hly_15_2 hlk_19 (hh_12.at 0 rfl) dX13_part_5 ?_
    refine lv_iload_n hx hb dX13_part_8 rfl (lv_at hl 1 rfl) ?_
    refine j7_iald hx hb hK hh_12 hB152 1 rfl (by decide) hg_one_13 (x := a1.toInt) (rfl) (by omega) dX13_part_9 (fun z_14 (hz_14 : True) => ?_)
    refine lv_goto (tgt := 33) hx hb dX13_part_10 (by decide) ?_
    rw [hQ]
    exact W.iret (v := z_14) hx hb hr (fun t ht hW => ⟨⟨z_14, (), rfl, trivial, hh_12.rt (M1 := []) [] rfl ht⟩, by rw [ht]; try exact hh_12.1.1, fun q h9 hq => by rw [ht]; try exact hh_12.1.2.1 q h9 hq⟩) hh_12.1.2.2 dX13_part_33
set_option maxHeartbeats 4000000 in
set_option maxRecDepth 20000 in
theorem uX13_token (l : Launch) (dC : Nat → ClassId) (dI : Nat → Nat → Nat) (ca : Nat → ClassId) (base : Nat) (B : jF) (hB : jBok B) (hAp : jAp (dC, dI)) (hB15 : ∀ n G a H, B 15 n G a H ↔ jOb (dC, dI) 15 50 (F15 n G) a H) (hB157 : ∀ n G a H, B 157 n G a H ↔ jAr (dC, dI) (ca 1) (fun j z => 0 ≤ z.toInt ∧ z.toInt ≤ 1599) n a H) (hB167 : ∀ n G a H, B 167 n G a H ↔ jAr (dC, dI) (ca 1) (fun j z => True) n a H) (G0 : jT) (H0 : Heap) (r0 : Nat) (a1 : Int32) (a2 : Int32) (pk : Int32) : Met l yX13_token (jw yX13_token cX13_token 3 none) ({ frames := 0, cells := 0, slots := 0, locals := 0 }) (va_Pc [.ref r0, .int a1, .int a2] (fun U => U.heap = H0 ∧ jX B base G0 [] H0 ∧ jG dC dI ca base U ∧ G0 r0 = some (15, 0) ∧ jP (dC, dI) G0 H0 [(r0, 15, 30, .int pk)] ∧ 0 ≤ pk.toInt ∧ pk.toInt ≤ 1499 ∧ 0 ≤ a2.toInt ∧ a2.toInt ≤ 1599)) (va_Qv (S := Int32) (fun u => u.toInt = pk.toInt + 1) (fun u t => jRt (dC, dI) B base G0 EX13_token H0 [(r0, 15, 30, .int u)] t.heap) (jA base)) 0 0 (jA base) := by
  refine Met.ofW (cc := cX13_token) (maxL := 3) (ret := none) (by decide) rfl ?_
  intro p e s m args below meth c s₁ Bd hml hv
  obtain ⟨rfl, hH0, hX, hG, hg_r0, hP0, hp0, hp1, hp2, hp3⟩ := hv
  have hK := hG.1
  have hx := Bd.exec
  have hb := Bd.bytes
  have hr := Bd.returns
  have hts := atoms_spec (ws := (jw yX13_token cX13_token 3 none)) Bd.pre
  have htw : ∀ w ∈ jWl, w.before _ s = true := fun w h => hts w (List.mem_cons_of_mem _ h)
  have hown : s.vm.findClass RX13 = some m.cls := findClass_of_methodNamed Bd.named
  have hlocks := Bd.notSynchronized
  obtain ⟨Q, hQ⟩ : ∃ Q, Q = MQ below (va_Qv (S := Int32) (fun u => u.toInt = pk.toInt + 1) (fun u t => jRt (dC, dI) B base G0 EX13_token H0 [(r0, 15, 30, .int u)] t.heap) (jA base)) ([.ref r0, .int a1, .int a2] : List Value).toArray s 0 0 (jA base) := ⟨_, rfl⟩
  rw [← hQ]
  have hl := lv_entry ([.ref r0, .int a1, .int a2]) (n := 3) (Nat.le_of_ble_eq_true rfl)
  rw [lg_entry_eq]
  generalize (lg_sl ([.ref r0, .int a1, .int a2]) ++ List.replicate (3 - (lg_sl ([.ref r0, .int a1, .int a2])).length) Slot.unset).toArray = ls at hl ⊢
  have hl : lv_has ls 3 [(0, .ref r0), (1, .int a1), (2, .int a2)] := hl
  generalize hR : (headSpec (jw yX13_token cX13_token 3 none) ({ frames := 0, cells := 0, slots := 0, locals := 0 })).room = R
  subst hH0
  have hh : jSt (dC, dI) B base G0 G0 EX13_token s.heap 0 0 [(r0, 15, 30, .int pk)] [] [] s.heap [] := jSt.start hX hP0 jMc.nil jIs.nil
  clear hX hP0
  have hk0 : (0 : Int32).toInt = 0 := by decide
  have hk1 : (1 : Int32).toInt = 1 := by decide
  have hly_15_28 := htw (u_lay RX13 TX13 28) (jWc_wsX130 _ (u_in_lay (by decide)))
  have hly_15_29 := htw (u_lay RX13 TX13 29) (jWc_wsX130 _ (u_in_lay (by decide)))
  have hly_15_30 := htw (u_lay RX13 TX13 30) (jWc_wsX130 _ (u_in_lay (by decide)))
  have hlk_71 := (htw (.fieldLink RX13 71 "ProofServerModel$Kernel" "kind" "[I") (jWr_15 _ (List.mem_of_getElem? (i := 4) rfl)))
  have hlk_140 := (htw (.fieldLink RX13 140 "ProofServerModel$Kernel" "tokens" "I") (jWr_60 _ (List.mem_of_getElem? (i := 9) rfl)))
  have hlk_74 := (htw (.fieldLink RX13 74 "ProofServerModel$Kernel" "what" "[I") (jWr_15 _ (List.mem_of_getElem? (i := 5) rfl)))
  have hrg_a1 := jb_rng a1
  have hrg_a2 := jb_rng a2
  refine lv_aload_n hx hb dX13_token_0 rfl (lv_at hl 0 rfl) ?_
  obtain ⟨v_1, hv_1, hh_2⟩ := hh.pin (C := RX13) (T := TX13) (N := 50) hB15 rfl (by decide) hg_r0 (i := 28) (by decide) rfl
  clear hh
  obtain ⟨kind_3, rfl, hg_kind_3⟩ := hv_1
  refine j7_read hx hb hown hK (C := RX13) (T := TX13) (N := 50) rfl hly_15_28 hlk_71 (hh_2.at 0 rfl) dX13_token_1 ?_
  refine lv_aload_n hx hb dX13_token_4 rfl (lv_at hl 0 rfl) ?_
  refine j7_read hx hb hown hK (C := RX13) (T := TX13) (N := 50) rfl hly_15_30 hlk_140 (hh_2.at 1 rfl) dX13_token_5 ?_
  refine lv_iload_n hx hb dX13_token_8 rfl (lv_at hl 1 rfl) ?_
  refine j7_iast hx hb hK hh_2 hB hB167 1 rfl (by decide) (by decide) rfl rfl rfl hg_kind_3 (x := pk.toInt) (rfl) (by omega) (trivial) dX13_token_9 (fun H_4 locs_4 hh_4 => ?_)
  clear hh_2
  refine lv_aload_n hx hb dX13_token_10 rfl (lv_at hl 0 rfl) ?_
  obtain ⟨v_5, hv_5, hh_6⟩ := hh_4.pin (C := RX13) (T := TX13) (N := 50) hB15 rfl (by decide) hg_r0 (i := 29) (by decide) rfl
  clear hh_4
  obtain ⟨what_7, rfl, hg_what_7⟩ := hv_5
  refine j7_read hx hb hown hK (C := RX13) (T := TX13) (N := 50) rfl hly_15_29 hlk_74 (hh_6.at 0 rfl) dX13_token_11 ?_
  refine lv_aload_n hx hb dX13_token_14 rfl (lv_at hl 0 rfl) ?_
  refine j7_read hx hb hown hK (C := RX13) (T := TX13) (N := 50) rfl hly_15_30 hlk_140 (hh_6.at 2 rfl) dX13_token_15 ?_
  refine lv_iload_n hx hb dX13_token_18 rfl (lv_at hl 2 rfl) ?_
  refine j7_iast hx hb hK hh_6 hB hB157 1 rfl (by decide) (by decide) rfl rfl rfl hg_what_7 (x := pk.toInt) (rfl) (by omega) (by first | omega | (refine ⟨?_, ?_⟩ <;> (first | omega | rfl | assumption | decide | exact Or.inl rfl | exact Or.inr rfl | (simp only; omega)))) dX13_token_19 (fun H_8 locs_8 hh_8 => ?_)
  clear hh_6
  refine lv_aload_n hx hb dX13_token_20 rfl (lv_at hl 0 rfl) ?_
  refine lv_dup hx hb dX13_token_21 rfl ?_
  refine j7_read hx hb hown hK (C := RX13) (T := TX13) (N := 50) rfl hly_15_30 hlk_140 (hh_8.at 2 rfl) dX13_token_22 ?_
  refine lv_iconst (v := 1) hx hb dX13_token_25 (by decide) ?_
  refine lv_iadd hx hb dX13_token_26 ?_
  refine lv_topi (fun z_9 ez_9 => ?_)
  have hz_9 : z_9.toInt = pk.toInt + 1 := by rw [ez_9]; exact jb_iadd2 (rfl) ((by decide)) (by omega)
  refine j7_put hx hb hown hK hh_8 hB hAp hB15 (C := RX13) (T := TX13) (N := 50) rfl (by decide) hg_r0 (i := 30) (by decide) hly_15_30 rfl hlk_140 rfl (ty := .int) (v := .int z_9) (by decide +kernel) rfl rfl (⟨_, rfl, by omega, by omega⟩) rfl (L1 := [(r0, 15, 29, .ref what_7), (r0, 15, 28, .ref kind_3)]) [0, 1] rfl rfl rfl dX13_token_27 (fun H_10 locs_10 hh_10 => ?_)
  clear hh_8
  rw [hQ]
  exact W.vret hx hb hr (fun t ht hW => ⟨⟨z_9, rfl, by first | omega | rfl | assumption | decide | exact Or.inl rfl | exact Or.inr rfl | (simp only; omega), hh_10.rt (M1 := [(r0, 15, 30, .int z_9)]) [0] rfl ht⟩, by rw [ht]; try exact hh_10.1.1, fun q h9 hq => by rw [ht]; try exact hh_10.1.2.1 q h9 hq⟩) hh_10.1.2.2 dX13_token_30
set_option maxHeartbeats 4000000 in
set_option maxRecDepth 20000 in
theorem uX13_isLetter (l : Launch) (dC : Nat → ClassId) (dI : Nat → Nat → Nat) (ca : Nat → ClassId) (base : Nat) (B : jF) (hB : jBok B) (hAp : jAp (dC, dI)) (G0 : jT) (H0 : Heap) (a0 : Int32) : Met l yX13_isLetter (jw yX13_isLetter cX13_isLetter 1 (some .boolean)) ({ frames := 1, cells := 0, slots := 0, locals := 22 }) (va_Pc [.int a0] (fun U => U.heap = H0 ∧ jX B base G0 [] H0 ∧ jG dC dI ca base U ∧ jP (dC, dI) G0 H0 [] ∧ True)) (va_Qi (S := Unit) (fun r u => (r = 0 ∨ r = 1) ∧ (r.toInt = jLt a0.toInt)) (fun u t => jRt (dC, dI) B base G0 EX13_isLetter H0 [] t.heap) (jA base)) 0 0 (jA base) := by
  refine Met.ofW (cc := cX13_isLetter) (maxL := 1) (ret := (some .boolean)) (by decide) rfl ?_
  intro p e s m args below meth c s₁ Bd hml hv
  obtain ⟨rfl, hH0, hX, hG, hP0, hp0⟩ := hv
  have hK := hG.1
  have hx := Bd.exec
  have hb := Bd.bytes
  have hr := Bd.returns
  have hts := atoms_spec (ws := (jw yX13_isLetter cX13_isLetter 1 (some .boolean))) Bd.pre
  have htw : ∀ w ∈ jWl, w.before _ s = true := fun w h => hts w (List.mem_cons_of_mem _ h)
  have hown : s.vm.findClass RX13 = some m.cls := findClass_of_methodNamed Bd.named
  have hlocks := Bd.notSynchronized
  obtain ⟨Q, hQ⟩ : ∃ Q, Q = MQ below (va_Qi (S := Unit) (fun r u => (r = 0 ∨ r = 1) ∧ (r.toInt = jLt a0.toInt)) (fun u t => jRt (dC, dI) B base G0 EX13_isLetter H0 [] t.heap) (jA base)) ([.int a0] : List Value).toArray s 0 0 (jA base) := ⟨_, rfl⟩
  rw [← hQ]
  have hl := lv_entry ([.int a0]) (n := 1) (Nat.le_of_ble_eq_true rfl)
  rw [lg_entry_eq]
  generalize (lg_sl ([.int a0]) ++ List.replicate (1 - (lg_sl ([.int a0])).length) Slot.unset).toArray = ls at hl ⊢
  have hl : lv_has ls 1 [(0, .int a0)] := hl
  generalize hR : (headSpec (jw yX13_isLetter cX13_isLetter 1 (some .boolean)) ({ frames := 1, cells := 0, slots := 0, locals := 22 })).room = R
  subst hH0
  have hh : jSt (dC, dI) B base G0 G0 EX13_isLetter s.heap 0 0 [] [] [] s.heap [] := jSt.start hX hP0 jMc.nil jIs.nil
  clear hX hP0
  have hk0 : (0 : Int32).toInt = 0 := by decide
  have hk1 : (1 : Int32).toInt = 1 := by decide
  have hk65 : (65 : Int32).toInt = 65 := by decide
  have hk90 : (90 : Int32).toInt = 90 := by decide
  have hk97 : (97 : Int32).toInt = 97 := by decide
  have hk122 : (122 : Int32).toInt = 122 := by decide
  have hrg_a0 := jb_rng a0
  refine lv_iload_n hx hb dX13_isLetter_0 rfl (lv_at hl 0 rfl) ?_
  refine lv_bipush (v := 97) hx hb dX13_isLetter_1 (by decide) ?_
  refine lv_bipush (v := 122) hx hb dX13_isLetter_3 (by decide) ?_
  refine va_calli (A0 := jA base) (H0 := s.heap) (va_runSN (As := [.int a0, .int 97, .int 122]) (rest := []) ⟨hx, hb, hml, hown, hts⟩ (uX14_in l dC dI ca base B hB hAp G0 s.heap a0 97 122) ⟨va_cnB 3 hts (jgW (jWr_48 _ (List.mem_of_getElem? (i := 12) rfl))) rfl rfl rfl (hG.2.2.1 RX13 132 yX14_in "ProofServerModel" (List.mem_of_getElem? (i := 2577) (by decide +kernel))) (htw (.initialized RX14) (jWr_1 _ (List.mem_of_getElem? (i := 5) rfl))) (by decide +kernel) ⟨by rw [← hR]; exact Nat.le_of_ble_eq_true rfl, by rw [← hR]; exact Nat.le_of_ble_eq_true rfl⟩, htw (.static yX14_in) (jWr_48 _ (List.mem_of_getElem? (i := 11) rfl)), trivial⟩ ⟨fun a U g mk q => by obtain ⟨q0, q1, q2, qK, q10, q11⟩ := q; exact ⟨q0, q1, q2, jG.calling g mk a qK, q10, q11⟩, fun U hU hW => ⟨rfl, hU, hh.2.1, hG.step hW hU hh.1, jP.nil, trivial⟩⟩ rfl rfl hl.1 rfl (lv_room (Nat.le_of_ble_eq_true rfl)) dX13_isLetter_5 ⟨Nat.zero_le _, Nat.zero_le _⟩) hh.1 (fun q _ h => h) (fun q h => h) (fun r_2 u_1 t_1 H_1 locs_1 ht_1 hvm_1 hr_2 hb_1 hz_1 hk_1 hS_1 => ?_)
  rw [ht_1] at hb_1
  obtain ⟨hb_11, hb_12, hb_13, hb_14, hb_15⟩ := hb_1
  have hh_1 : jSt (dC, dI) B base G0 G0 EX13_isLetter s.heap 0 0 [] [] [] H_1 locs_1 := ((hh.call hb_11 hb_12 hb_13 hb_14 hS_1 rfl (L1 := []) [] rfl rfl (M1 := []) [] rfl rfl (I1 := []) [] rfl rfl).more hb_15)
  clear hh ht_1 hvm_1 hz_1 hk_1 hS_1 hb_11 hb_12 hb_13 hb_14 hb_15
  obtain ⟨hr_2b, hr_2p⟩ := hr_2
  obtain ⟨hr_2p_0, hr_2p_1, hr_2p_2⟩ := hr_2p
  have hr_2' := jb_01 hr_2b
  refine lv_if_ne (tgt := 22) hx hb dX13_isLetter_8 (by decide) (fun c_3 => ?_) (fun c_3 => ?_)
  · skip
    have c_3' : r_2.toInt ≠ 0 := jb_ne (rfl) ((by decide)) c_3
    refine lv_iconst (v := 1) hx hb dX13_isLetter_22 (by decide) ?_
    refine lv_goto (tgt := 27) hx hb dX13_isLetter_23 (by decide) ?_
    rw [hQ]
    exact W.zret (v := 1) hx hb hr (jb_nz (Or.inr rfl)) (fun t ht hW => ⟨⟨1, (), rfl, ⟨(Or.inr rfl), by unfold jLt; rw [← hk97, ← hk122, ← hk65, ← hk90]; first | (rw [if_pos (by omega)]; decide) | (rw [if_neg (by omega)]; omega)⟩, hh_1.rt (M1 := []) [] rfl ht⟩, by rw [ht]; try exact hh_1.1.1, fun q h9 hq => by rw [ht]; try exact hh_1.1.2.1 q h9 hq⟩) hh_1.1.2.2 dX13_isLetter_27
  · skip
    have c_3' : r_2.toInt = 0 := jb_ne_n (rfl) ((by decide)) c_3
    refine lv_iload_n hx hb dX13_isLetter_11 rfl (lv_at hl 0 rfl) ?_
    refine lv_bipush (v := 65) hx hb dX13_isLetter_12 (by decide) ?_
    refine lv_bipush (v := 90) hx hb dX13_isLetter_14 (by decide) ?_
    refine va_calli (A0 := jA base) (H0 := s.heap) (va_runSN (As := [.int a0, .int 65, .int 90]) (rest := []) ⟨hx, hb, hml, hown, hts⟩ (uX14_in l dC dI ca base B hB hAp G0 H_1 a0 65 90) ⟨va_cnB 3 hts (jgW (jWr_48 _ (List.mem_of_getElem? (i := 12) rfl))) rfl rfl rfl (hG.2.2.1 RX13 132 yX14_in "ProofServerModel" (List.mem_of_getElem? (i := 2577) (by decide +kernel))) (htw (.initialized RX14) (jWr_1 _ (List.mem_of_getElem? (i := 5) rfl))) (by decide +kernel) ⟨by rw [← hR]; exact Nat.le_of_ble_eq_true rfl, by rw [← hR]; exact Nat.le_of_ble_eq_true rfl⟩, htw (.static yX14_in) (jWr_48 _ (List.mem_of_getElem? (i := 11) rfl)), trivial⟩ ⟨fun a U g mk q => by obtain ⟨q0, q1, q2, qK, q10, q11⟩ := q; exact ⟨q0, q1, q2, jG.calling g mk a qK, q10, q11⟩, fun U hU hW => ⟨rfl, hU, hh_1.2.1, hG.step hW hU hh_1.1, jP.nil, trivial⟩⟩ rfl rfl hl.1 rfl (lv_room (Nat.le_of_ble_eq_true rfl)) dX13_isLetter_16 ⟨Nat.zero_le _, Nat.zero_le _⟩) hh_1.1 (fun q _ h => h) (fun q h => h) (fun r_5 u_4 t_4 H_4 locs_4 ht_4 hvm_4 hr_5 hb_4 hz_4 hk_4 hS_4 => ?_)
    rw [ht_4] at hb_4
    obtain ⟨hb_41, hb_42, hb_43, hb_44, hb_45⟩ := hb_4
    have hh_4 : jSt (dC, dI) B base G0 G0 EX13_isLetter s.heap 0 0 [] [] [] H_4 locs_4 := ((hh_1.call hb_41 hb_42 hb_43 hb_44 hS_4 rfl (L1 := []) [] rfl rfl (M1 := []) [] rfl rfl (I1 := []) [] rfl rfl).more hb_45)
    clear hh_1 ht_4 hvm_4 hz_4 hk_4 hS_4 hb_41 hb_42 hb_43 hb_44 hb_45
    obtain ⟨hr_5b, hr_5p⟩ := hr_5
    obtain ⟨hr_5p_0, hr_5p_1, hr_5p_2⟩ := hr_5p
    have hr_5' := jb_01 hr_5b
    refine lv_if_eq (tgt := 26) hx hb dX13_isLetter_19 (by decide) (fun c_6 => ?_) (fun c_6 => ?_)
    · skip
      have c_6' : r_5.toInt = 0 := jb_eq (rfl) ((by decide)) c_6
      refine lv_iconst (v := 0) hx hb dX13_isLetter_26 (by decide) ?_
      rw [hQ]
      exact W.zret (v := 0) hx hb hr (jb_nz (Or.inl rfl)) (fun t ht hW => ⟨⟨0, (), rfl, ⟨(Or.inl rfl), by unfold jLt; rw [← hk97, ← hk122, ← hk65, ← hk90]; first | (rw [if_pos (by omega)]; decide) | (rw [if_neg (by omega)]; omega)⟩, hh_4.rt (M1 := []) [] rfl ht⟩, by rw [ht]; try exact hh_4.1.1, fun q h9 hq => by rw [ht]; try exact hh_4.1.2.1 q h9 hq⟩) hh_4.1.2.2 dX13_isLetter_27
    · skip
      have c_6' : r_5.toInt ≠ 0 := jb_eq_n (rfl) ((by decide)) c_6
      refine lv_iconst (v := 1) hx hb dX13_isLetter_22 (by decide) ?_
      refine lv_goto (tgt := 27) hx hb dX13_isLetter_23 (by decide) ?_
      rw [hQ]
      exact W.zret (v := 1) hx hb hr (jb_nz (Or.inr rfl)) (fun t ht hW => ⟨⟨1, (), rfl, ⟨(Or.inr rfl), by unfold jLt; rw [← hk97, ← hk122, ← hk65, ← hk90]; first | (rw [if_pos (by omega)]; decide) | (rw [if_neg (by omega)]; omega)⟩, hh_4.rt (M1 := []) [] rfl ht⟩, by rw [ht]; try exact hh_4.1.1, fun q h9 hq => by rw [ht]; try exact hh_4.1.2.1 q h9 hq⟩) hh_4.1.2.2 dX13_isLetter_27
set_option maxHeartbeats 4000000 in
set_option maxRecDepth 20000 in
theorem uX13_isNameSign (l : Launch) (dC : Nat → ClassId) (dI : Nat → Nat → Nat) (ca : Nat → ClassId) (base : Nat) (B : jF) (hB : jBok B) (hAp : jAp (dC, dI)) (G0 : jT) (H0 : Heap) (a0 : Int32) : Met l yX13_isNameSign (jw yX13_isNameSign cX13_isNameSign 1 (some .boolean)) ({ frames := 2, cells := 0, slots := 0, locals := 42 }) (va_Pc [.int a0] (fun U => U.heap = H0 ∧ jX B base G0 [] H0 ∧ jG dC dI ca base U ∧ jP (dC, dI) G0 H0 [] ∧ True)) (va_Qi (S := Unit) (fun r u => (r = 0 ∨ r = 1) ∧ (r.toInt = 1 ∨ jLt a0.toInt = 0)) (fun u t => jRt (dC, dI) B base G0 EX13_isNameSign H0 [] t.heap) (jA base)) 0 0 (jA base) := by
  refine Met.ofW (cc := cX13_isNameSign) (maxL := 1) (ret := (some .boolean)) (by decide) rfl ?_
  intro p e s m args below meth c s₁ Bd hml hv
  obtain ⟨rfl, hH0, hX, hG, hP0, hp0⟩ := hv
  have hK := hG.1
  have hx := Bd.exec
  have hb := Bd.bytes
  have hr := Bd.returns
  have hts := atoms_spec (ws := (jw yX13_isNameSign cX13_isNameSign 1 (some .boolean))) Bd.pre
  have htw : ∀ w ∈ jWl, w.before _ s = true := fun w h => hts w (List.mem_cons_of_mem _ h)
  have hown : s.vm.findClass RX13 = some m.cls := findClass_of_methodNamed Bd.named
  have hlocks := Bd.notSynchronized
  obtain ⟨Q, hQ⟩ : ∃ Q, Q = MQ below (va_Qi (S := Unit) (fun r u => (r = 0 ∨ r = 1) ∧ (r.toInt = 1 ∨ jLt a0.toInt = 0)) (fun u t => jRt (dC, dI) B base G0 EX13_isNameSign H0 [] t.heap) (jA base)) ([.int a0] : List Value).toArray s 0 0 (jA base) := ⟨_, rfl⟩
  rw [← hQ]
  have hl := lv_entry ([.int a0]) (n := 1) (Nat.le_of_ble_eq_true rfl)
  rw [lg_entry_eq]
  generalize (lg_sl ([.int a0]) ++ List.replicate (1 - (lg_sl ([.int a0])).length) Slot.unset).toArray = ls at hl ⊢
  have hl : lv_has ls 1 [(0, .int a0)] := hl
  generalize hR : (headSpec (jw yX13_isNameSign cX13_isNameSign 1 (some .boolean)) ({ frames := 2, cells := 0, slots := 0, locals := 42 })).room = R
  subst hH0
  have hh : jSt (dC, dI) B base G0 G0 EX13_isNameSign s.heap 0 0 [] [] [] s.heap [] := jSt.start hX hP0 jMc.nil jIs.nil
  clear hX hP0
  have hk0 : (0 : Int32).toInt = 0 := by decide
  have hk1 : (1 : Int32).toInt = 1 := by decide
  have hk39 : (39 : Int32).toInt = 39 := by decide
  have hk48 : (48 : Int32).toInt = 48 := by decide
  have hk57 : (57 : Int32).toInt = 57 := by decide
  have hk95 : (95 : Int32).toInt = 95 := by decide
  have hrg_a0 := jb_rng a0
  refine lv_iload_n hx hb dX13_isNameSign_0 rfl (lv_at hl 0 rfl) ?_
  refine va_calli (A0 := jA base) (H0 := s.heap) (va_runS (As := [.int a0]) (rest := []) ⟨hx, hb, hml, hown, hts⟩ (uX13_isLetter l dC dI ca base B hB hAp G0 s.heap a0) (va_cwS 1 hts (jgS (jWr_60 _ (List.mem_of_getElem? (i := 10) rfl)) (jWr_60 _ (List.mem_of_getElem? (i := 11) rfl)) (jWr_12 _ (List.mem_of_getElem? (i := 12) rfl)) (jWr_60 _ (List.mem_of_getElem? (i := 12) rfl))) rfl rfl rfl (by decide +kernel) ⟨by rw [← hR]; exact Nat.le_of_ble_eq_true rfl, by rw [← hR]; exact Nat.le_of_ble_eq_true rfl⟩) ⟨fun a U g mk q => by obtain ⟨q0, q1, q2, qK, q10, q11⟩ := q; exact ⟨q0, q1, q2, jG.calling g mk a qK, q10, q11⟩, fun U hU hW => ⟨rfl, hU, hh.2.1, hG.step hW hU hh.1, jP.nil, trivial⟩⟩ rfl rfl hl.1 rfl (lv_room (Nat.le_of_ble_eq_true rfl)) dX13_isNameSign_1 ⟨Nat.zero_le _, Nat.zero_le _⟩) hh.1 (fun q _ h => h) (fun q h => h) (fun r_2 u_1 t_1 H_1 locs_1 ht_1 hvm_1 hr_2 hb_1 hz_1 hk_1 hS_1 => ?_)
  rw [ht_1] at hb_1
  obtain ⟨hb_11, hb_12, hb_13, hb_14, hb_15⟩ := hb_1
  have hh_1 : jSt (dC, dI) B base G0 G0 EX13_isNameSign s.heap 0 0 [] [] [] H_1 locs_1 := ((hh.call hb_11 hb_12 hb_13 hb_14 hS_1 rfl (L1 := []) [] rfl rfl (M1 := []) [] rfl rfl (I1 := []) [] rfl rfl).more hb_15)
  clear hh ht_1 hvm_1 hz_1 hk_1 hS_1 hb_11 hb_12 hb_13 hb_14 hb_15
  obtain ⟨hr_2b, hr_2p⟩ := hr_2
  have hr_2' := jb_01 hr_2b
  refine lv_if_ne (tgt := 30) hx hb dX13_isNameSign_4 (by decide) (fun c_3 => ?_) (fun c_3 => ?_)
  · skip
    have c_3' : r_2.toInt ≠ 0 := jb_ne (rfl) ((by decide)) c_3
    refine lv_iconst (v := 1) hx hb dX13_isNameSign_30 (by decide) ?_
    refine lv_goto (tgt := 35) hx hb dX13_isNameSign_31 (by decide) ?_
    rw [hQ]
    exact W.zret (v := 1) hx hb hr (jb_nz (Or.inr rfl)) (fun t ht hW => ⟨⟨1, (), rfl, ⟨(Or.inr rfl), by first | omega | rfl | assumption | decide | exact Or.inl rfl | exact Or.inr rfl | (simp only; omega)⟩, hh_1.rt (M1 := []) [] rfl ht⟩, by rw [ht]; try exact hh_1.1.1, fun q h9 hq => by rw [ht]; try exact hh_1.1.2.1 q h9 hq⟩) hh_1.1.2.2 dX13_isNameSign_35
  · skip
    have c_3' : r_2.toInt = 0 := jb_ne_n (rfl) ((by decide)) c_3
    refine lv_iload_n hx hb dX13_isNameSign_7 rfl (lv_at hl 0 rfl) ?_
    refine lv_bipush (v := 48) hx hb dX13_isNameSign_8 (by decide) ?_
    refine lv_bipush (v := 57) hx hb dX13_isNameSign_10 (by decide) ?_
    refine va_calli (A0 := jA base) (H0 := s.heap) (va_runSN (As := [.int a0, .int 48, .int 57]) (rest := []) ⟨hx, hb, hml, hown, hts⟩ (uX14_in l dC dI ca base B hB hAp G0 H_1 a0 48 57) ⟨va_cnB 3 hts (jgW (jWr_48 _ (List.mem_of_getElem? (i := 12) rfl))) rfl rfl rfl (hG.2.2.1 RX13 132 yX14_in "ProofServerModel" (List.mem_of_getElem? (i := 2577) (by decide +kernel))) (htw (.initialized RX14) (jWr_1 _ (List.mem_of_getElem? (i := 5) rfl))) (by decide +kernel) ⟨by rw [← hR]; exact Nat.le_of_ble_eq_true rfl, by rw [← hR]; exact Nat.le_of_ble_eq_true rfl⟩, htw (.static yX14_in) (jWr_48 _ (List.mem_of_getElem? (i := 11) rfl)), trivial⟩ ⟨fun a U g mk q => by obtain ⟨q0, q1, q2, qK, q10, q11⟩ := q; exact ⟨q0, q1, q2, jG.calling g mk a qK, q10, q11⟩, fun U hU hW => ⟨rfl, hU, hh_1.2.1, hG.step hW hU hh_1.1, jP.nil, trivial⟩⟩ rfl rfl hl.1 rfl (lv_room (Nat.le_of_ble_eq_true rfl)) dX13_isNameSign_12 ⟨Nat.zero_le _, Nat.zero_le _⟩) hh_1.1 (fun q _ h => h) (fun q h => h) (fun r_5 u_4 t_4 H_4 locs_4 ht_4 hvm_4 hr_5 hb_4 hz_4 hk_4 hS_4 => ?_)
    rw [ht_4] at hb_4
    obtain ⟨hb_41, hb_42, hb_43, hb_44, hb_45⟩ := hb_4
    have hh_4 : jSt (dC, dI) B base G0 G0 EX13_isNameSign s.heap 0 0 [] [] [] H_4 locs_4 := ((hh_1.call hb_41 hb_42 hb_43 hb_44 hS_4 rfl (L1 := []) [] rfl rfl (M1 := []) [] rfl rfl (I1 := []) [] rfl rfl).more hb_45)
    clear hh_1 ht_4 hvm_4 hz_4 hk_4 hS_4 hb_41 hb_42 hb_43 hb_44 hb_45
    obtain ⟨hr_5b, hr_5p⟩ := hr_5
    obtain ⟨hr_5p_0, hr_5p_1, hr_5p_2⟩ := hr_5p
    have hr_5' := jb_01 hr_5b
    refine lv_if_ne (tgt := 30) hx hb dX13_isNameSign_15 (by decide) (fun c_6 => ?_) (fun c_6 => ?_)
    · skip
      have c_6' : r_5.toInt ≠ 0 := jb_ne (rfl) ((by decide)) c_6
      refine lv_iconst (v := 1) hx hb dX13_isNameSign_30 (by decide) ?_
      refine lv_goto (tgt := 35) hx hb dX13_isNameSign_31 (by decide) ?_
      rw [hQ]
      exact W.zret (v := 1) hx hb hr (jb_nz (Or.inr rfl)) (fun t ht hW => ⟨⟨1, (), rfl, ⟨(Or.inr rfl), by first | omega | rfl | assumption | decide | exact Or.inl rfl | exact Or.inr rfl | (simp only; omega)⟩, hh_4.rt (M1 := []) [] rfl ht⟩, by rw [ht]; try exact hh_4.1.1, fun q h9 hq => by rw [ht]; try exact hh_4.1.2.1 q h9 hq⟩) hh_4.1.2.2 dX13_isNameSign_35
    · skip
      have c_6' : r_5.toInt = 0 := jb_ne_n (rfl) ((by decide)) c_6
      refine lv_iload_n hx hb dX13_isNameSign_18 rfl (lv_at hl 0 rfl) ?_
      refine lv_bipush (v := 95) hx hb dX13_isNameSign_19 (by decide) ?_
      refine lv_icmp_eq (tgt := 30) hx hb dX13_isNameSign_21 (by decide) (fun c_7 => ?_) (fun c_7 => ?_)
      · skip
        have c_7' : a0.toInt = 95 := jb_eq (rfl) ((by decide)) c_7
        refine lv_iconst (v := 1) hx hb dX13_isNameSign_30 (by decide) ?_
        refine lv_goto (tgt := 35) hx hb dX13_isNameSign_31 (by decide) ?_
        rw [hQ]
        exact W.zret (v := 1) hx hb hr (jb_nz (Or.inr rfl)) (fun t ht hW => ⟨⟨1, (), rfl, ⟨(Or.inr rfl), by first | omega | rfl | assumption | decide | exact Or.inl rfl | exact Or.inr rfl | (simp only; omega)⟩, hh_4.rt (M1 := []) [] rfl ht⟩, by rw [ht]; try exact hh_4.1.1, fun q h9 hq => by rw [ht]; try exact hh_4.1.2.1 q h9 hq⟩) hh_4.1.2.2 dX13_isNameSign_35
      · skip
        have c_7' : a0.toInt ≠ 95 := jb_eq_n (rfl) ((by decide)) c_7
        refine lv_iload_n hx hb dX13_isNameSign_24 rfl (lv_at hl 0 rfl) ?_
        refine lv_bipush (v := 39) hx hb dX13_isNameSign_25 (by decide) ?_
        refine lv_icmp_ne (tgt := 34) hx hb dX13_isNameSign_27 (by decide) (fun c_8 => ?_) (fun c_8 => ?_)
        · skip
          have c_8' : a0.toInt ≠ 39 := jb_ne (rfl) ((by decide)) c_8
          refine lv_iconst (v := 0) hx hb dX13_isNameSign_34 (by decide) ?_
          rw [hQ]
          exact W.zret (v := 0) hx hb hr (jb_nz (Or.inl rfl)) (fun t ht hW => ⟨⟨0, (), rfl, ⟨(Or.inl rfl), by first | omega | rfl | assumption | decide | exact Or.inl rfl | exact Or.inr rfl | (simp only; omega)⟩, hh_4.rt (M1 := []) [] rfl ht⟩, by rw [ht]; try exact hh_4.1.1, fun q h9 hq => by rw [ht]; try exact hh_4.1.2.1 q h9 hq⟩) hh_4.1.2.2 dX13_isNameSign_35
        · skip
          have c_8' : a0.toInt = 39 := jb_ne_n (rfl) ((by decide)) c_8
          refine lv_iconst (v := 1) hx hb dX13_isNameSign_30 (by decide) ?_
          refine lv_goto (tgt := 35) hx hb dX13_isNameSign_31 (by decide) ?_
          rw [hQ]
          exact W.zret (v := 1) hx hb hr (jb_nz (Or.inr rfl)) (fun t ht hW => ⟨⟨1, (), rfl, ⟨(Or.inr rfl), by first | omega | rfl | assumption | decide | exact Or.inl rfl | exact Or.inr rfl | (simp only; omega)⟩, hh_4.rt (M1 := []) [] rfl ht⟩, by rw [ht]; try exact hh_4.1.1, fun q h9 hq => by rw [ht]; try exact hh_4.1.2.1 q h9 hq⟩) hh_4.1.2.2 dX13_isNameSign_35
set_option maxHeartbeats 4000000 in
set_option maxRecDepth 20000 in
theorem uX13_is (l : Launch) (dC : Nat → ClassId) (dI : Nat → Nat → Nat) (ca : Nat → ClassId) (base : Nat) (B : jF) (hB : jBok B) (hAp : jAp (dC, dI)) (hB15 : ∀ n G a H, B 15 n G a H ↔ jOb (dC, dI) 15 50 (F15 n G) a H) (hB157 : ∀ n G a H, B 157 n G a H ↔ jAr (dC, dI) (ca 1) (fun j z => 0 ≤ z.toInt ∧ z.toInt ≤ 1599) n a H) (hB167 : ∀ n G a H, B 167 n G a H ↔ jAr (dC, dI) (ca 1) (fun j z => True) n a H) (G0 : jT) (H0 : Heap) (r0 : Nat) (a1 : Int32) (pk : Int32) (pa : Int32) (ak : Nat) (n_ak : Nat) (aw : Nat) (n_aw : Nat) (fk : Nat → Int32) (fw : Nat → Int32) : Met l yX13_is (jw yX13_is cX13_is 2 (some .boolean)) ({ frames := 0, cells := 0, slots := 0, locals := 0 }) (va_Pc [.ref r0, .int a1] (fun U => U.heap = H0 ∧ jX B base G0 [] H0 ∧ jG dC dI ca base U ∧ G0 r0 = some (15, 0) ∧ G0 ak = some (167, n_ak) ∧ G0 aw = some (157, n_aw) ∧ jP (dC, dI) G0 H0 [(r0, 15, 30, .int pk), (r0, 15, 32, .int pa), (r0, 15, 28, .ref ak), (r0, 15, 29, .ref aw)] ∧ jMc (dC, dI) G0 H0 [(ak, 167, n_ak, ca 1, fk), (aw, 157, n_aw, ca 1, fw)] ∧ 0 ≤ pk.toInt ∧ pk.toInt ≤ 1500 ∧ 0 ≤ pa.toInt ∧ pa.toInt ≤ 1600 ∧ n_ak = 1500 ∧ n_aw = 1500)) (va_Qi (S := Unit) (fun r u => (r = 0 ∨ r = 1) ∧ (r.toInt = jTk fk fw pa.toInt pk.toInt a1.toInt ∧ pa.toInt + 1 ≤ pk.toInt + 100000 * (1 - r.toInt))) (fun u t => jRt (dC, dI) B base G0 EX13_is H0 [] t.heap) (jA base)) 0 0 (jA base) := by
  refine Met.ofW (cc := cX13_is) (maxL := 2) (ret := (some .boolean)) (by decide) rfl ?_
  intro p e s m args below meth c s₁ Bd hml hv
  obtain ⟨rfl, hH0, hX, hG, hg_r0, hg_ak, hg_aw, hP0, hM0, hp0, hp1, hp2, hp3, hp4, hp5⟩ := hv
  have hK := hG.1
  have hx := Bd.exec
  have hb := Bd.bytes
  have hr := Bd.returns
  have hts := atoms_spec (ws := (jw yX13_is cX13_is 2 (some .boolean))) Bd.pre
  have htw : ∀ w ∈ jWl, w.before _ s = true := fun w h => hts w (List.mem_cons_of_mem _ h)
  have hown : s.vm.findClass RX13 = some m.cls := findClass_of_methodNamed Bd.named
  have hlocks := Bd.notSynchronized
  obtain ⟨Q, hQ⟩ : ∃ Q, Q = MQ below (va_Qi (S := Unit) (fun r u => (r = 0 ∨ r = 1) ∧ (r.toInt = jTk fk fw pa.toInt pk.toInt a1.toInt ∧ pa.toInt + 1 ≤ pk.toInt + 100000 * (1 - r.toInt))) (fun u t => jRt (dC, dI) B base G0 EX13_is H0 [] t.heap) (jA base)) ([.ref r0, .int a1] : List Value).toArray s 0 0 (jA base) := ⟨_, rfl⟩
  rw [← hQ]
  have hl := lv_entry ([.ref r0, .int a1]) (n := 2) (Nat.le_of_ble_eq_true rfl)
  rw [lg_entry_eq]
  generalize (lg_sl ([.ref r0, .int a1]) ++ List.replicate (2 - (lg_sl ([.ref r0, .int a1])).length) Slot.unset).toArray = ls at hl ⊢
  have hl : lv_has ls 2 [(0, .ref r0), (1, .int a1)] := hl
  generalize hR : (headSpec (jw yX13_is cX13_is 2 (some .boolean)) ({ frames := 0, cells := 0, slots := 0, locals := 0 })).room = R
  subst hH0
  have hh : jSt (dC, dI) B base G0 G0 EX13_is s.heap 0 0 [(r0, 15, 30, .int pk), (r0, 15, 32, .int pa), (r0, 15, 28, .ref ak), (r0, 15, 29, .ref aw)] [(ak, 167, n_ak, ca 1, fk), (aw, 157, n_aw, ca 1, fw)] [] s.heap [] := jSt.start hX hP0 hM0 jIs.nil
  clear hX hP0
  have hk0 : (0 : Int32).toInt = 0 := by decide
  have hk1 : (1 : Int32).toInt = 1 := by decide
  have hk3 : (3 : Int32).toInt = 3 := by decide
  have hly_15_28 := htw (u_lay RX13 TX13 28) (jWc_wsX130 _ (u_in_lay (by decide)))
  have hly_15_29 := htw (u_lay RX13 TX13 29) (jWc_wsX130 _ (u_in_lay (by decide)))
  have hly_15_30 := htw (u_lay RX13 TX13 30) (jWc_wsX130 _ (u_in_lay (by decide)))
  have hly_15_32 := htw (u_lay RX13 TX13 32) (jWc_wsX130 _ (u_in_lay (by decide)))
  have hlk_171 := (htw (.fieldLink RX13 171 "ProofServerModel$Kernel" "at" "I") (jWr_61 _ (List.mem_of_getElem? (i := 11) rfl)))
  have hlk_140 := (htw (.fieldLink RX13 140 "ProofServerModel$Kernel" "tokens" "I") (jWr_60 _ (List.mem_of_getElem? (i := 9) rfl)))
  have hlk_71 := (htw (.fieldLink RX13 71 "ProofServerModel$Kernel" "kind" "[I") (jWr_15 _ (List.mem_of_getElem? (i := 4) rfl)))
  have hlk_74 := (htw (.fieldLink RX13 74 "ProofServerModel$Kernel" "what" "[I") (jWr_15 _ (List.mem_of_getElem? (i := 5) rfl)))
  have hrg_a1 := jb_rng a1
  refine lv_aload_n hx hb dX13_is_0 rfl (lv_at hl 0 rfl) ?_
  refine j7_read hx hb hown hK (C := RX13) (T := TX13) (N := 50) rfl hly_15_32 hlk_171 (hh.at 1 rfl) dX13_is_1 ?_
  refine lv_aload_n hx hb dX13_is_4 rfl (lv_at hl 0 rfl) ?_
  refine j7_read hx hb hown hK (C := RX13) (T := TX13) (N := 50) rfl hly_15_30 hlk_140 (hh.at 0 rfl) dX13_is_5 ?_
  refine lv_icmp_ge (tgt := 41) hx hb dX13_is_8 (by decide) (fun c_1 => ?_) (fun c_1 => ?_)
  · skip
    have c_1' : pa.toInt ≥ pk.toInt := jb_ge (rfl) (rfl) c_1
    refine lv_iconst (v := 0) hx hb dX13_is_41 (by decide) ?_
    rw [hQ]
    exact W.zret (v := 0) hx hb hr (jb_nz (Or.inl rfl)) (fun t ht hW => ⟨⟨0, (), rfl, ⟨(Or.inl rfl), by refine ⟨by unfold jTk; first | (rw [if_pos (by omega)]; decide) | (rw [if_neg (by omega)]; decide), by omega⟩⟩, hh.rt (M1 := []) [] rfl ht⟩, by rw [ht]; try exact hh.1.1, fun q h9 hq => by rw [ht]; try exact hh.1.2.1 q h9 hq⟩) hh.1.2.2 dX13_is_42
  · skip
    have c_1' : pa.toInt < pk.toInt := jb_ge_n (rfl) (rfl) c_1
    refine lv_aload_n hx hb dX13_is_11 rfl (lv_at hl 0 rfl) ?_
    refine j7_read hx hb hown hK (C := RX13) (T := TX13) (N := 50) rfl hly_15_28 hlk_71 (hh.at 2 rfl) dX13_is_12 ?_
    refine lv_aload_n hx hb dX13_is_15 rfl (lv_at hl 0 rfl) ?_
    refine j7_read hx hb hown hK (C := RX13) (T := TX13) (N := 50) rfl hly_15_32 hlk_171 (hh.at 1 rfl) dX13_is_16 ?_
    refine j7_ialdM hx hb hK hh hB167 1 rfl (by decide) hg_ak (x := pa.toInt) (rfl) (by omega) (j := 0) rfl dX13_is_19 (fun z_2 ez_2 (hz_2 : True) => ?_)
    have hqz_2 : z_2.toInt = (fk (pa.toInt).toNat).toInt := by rw [ez_2]
    refine lv_iconst (v := 3) hx hb dX13_is_20 (by decide) ?_
    refine lv_icmp_ne (tgt := 41) hx hb dX13_is_21 (by decide) (fun c_3 => ?_) (fun c_3 => ?_)
    · skip
      have c_3' : z_2.toInt ≠ 3 := jb_ne (rfl) ((by decide)) c_3
      refine lv_iconst (v := 0) hx hb dX13_is_41 (by decide) ?_
      rw [hQ]
      exact W.zret (v := 0) hx hb hr (jb_nz (Or.inl rfl)) (fun t ht hW => ⟨⟨0, (), rfl, ⟨(Or.inl rfl), by refine ⟨by unfold jTk; first | (rw [if_pos (by omega)]; decide) | (rw [if_neg (by omega)]; decide), by omega⟩⟩, hh.rt (M1 := []) [] rfl ht⟩, by rw [ht]; try exact hh.1.1, fun q h9 hq => by rw [ht]; try exact hh.1.2.1 q h9 hq⟩) hh.1.2.2 dX13_is_42
    · skip
      have c_3' : z_2.toInt = 3 := jb_ne_n (rfl) ((by decide)) c_3
      refine lv_aload_n hx hb dX13_is_24 rfl (lv_at hl 0 rfl) ?_
      refine j7_read hx hb hown hK (C := RX13) (T := TX13) (N := 50) rfl hly_15_29 hlk_74 (hh.at 3 rfl) dX13_is_25 ?_
      refine lv_aload_n hx hb dX13_is_28 rfl (lv_at hl 0 rfl) ?_
      refine j7_read hx hb hown hK (C := RX13) (T := TX13) (N := 50) rfl hly_15_32 hlk_171 (hh.at 1 rfl) dX13_is_29 ?_
      refine j7_ialdM hx hb hK hh hB157 1 rfl (by decide) hg_aw (x := pa.toInt) (rfl) (by omega) (j := 1) rfl dX13_is_32 (fun z_4 ez_4 (hz_4 : 0 ≤ z_4.toInt ∧ z_4.toInt ≤ 1599) => ?_)
      have hqz_4 : z_4.toInt = (fw (pa.toInt).toNat).toInt := by rw [ez_4]
      refine lv_iload_n hx hb dX13_is_33 rfl (lv_at hl 1 rfl) ?_
      refine lv_icmp_ne (tgt := 41) hx hb dX13_is_34 (by decide) (fun c_5 => ?_) (fun c_5 => ?_)
      · skip
        have c_5' : z_4.toInt ≠ a1.toInt := jb_ne (rfl) (rfl) c_5
        refine lv_iconst (v := 0) hx hb dX13_is_41 (by decide) ?_
        rw [hQ]
        exact W.zret (v := 0) hx hb hr (jb_nz (Or.inl rfl)) (fun t ht hW => ⟨⟨0, (), rfl, ⟨(Or.inl rfl), by refine ⟨by unfold jTk; first | (rw [if_pos (by omega)]; decide) | (rw [if_neg (by omega)]; decide), by omega⟩⟩, hh.rt (M1 := []) [] rfl ht⟩, by rw [ht]; try exact hh.1.1, fun q h9 hq => by rw [ht]; try exact hh.1.2.1 q h9 hq⟩) hh.1.2.2 dX13_is_42
      · skip
        have c_5' : z_4.toInt = a1.toInt := jb_ne_n (rfl) (rfl) c_5
        refine lv_iconst (v := 1) hx hb dX13_is_37 (by decide) ?_
        refine lv_goto (tgt := 42) hx hb dX13_is_38 (by decide) ?_
        rw [hQ]
        exact W.zret (v := 1) hx hb hr (jb_nz (Or.inr rfl)) (fun t ht hW => ⟨⟨1, (), rfl, ⟨(Or.inr rfl), by refine ⟨by unfold jTk; first | (rw [if_pos (by omega)]; decide) | (rw [if_neg (by omega)]; decide), by omega⟩⟩, hh.rt (M1 := []) [] rfl ht⟩, by rw [ht]; try exact hh.1.1, fun q h9 hq => by rw [ht]; try exact hh.1.2.1 q h9 hq⟩) hh.1.2.2 dX13_is_42
set_option maxHeartbeats 4000000 in
set_option maxRecDepth 20000 in
theorem uX13_isWord (l : Launch) (dC : Nat → ClassId) (dI : Nat → Nat → Nat) (ca : Nat → ClassId) (base : Nat) (B : jF) (hB : jBok B) (hAp : jAp (dC, dI)) (hB15 : ∀ n G a H, B 15 n G a H ↔ jOb (dC, dI) 15 50 (F15 n G) a H) (hB155 : ∀ n G a H, B 155 n G a H ↔ jAr (dC, dI) (ca 1) (fun j z => 0 ≤ z.toInt ∧ z.toInt ≤ 11990) n a H) (hB156 : ∀ n G a H, B 156 n G a H ↔ jAr (dC, dI) (ca 1) (fun j z => 0 ≤ z.toInt ∧ z.toInt ≤ 10) n a H) (hB157 : ∀ n G a H, B 157 n G a H ↔ jAr (dC, dI) (ca 1) (fun j z => 0 ≤ z.toInt ∧ z.toInt ≤ 1599) n a H) (hB166 : ∀ n G a H, B 166 n G a H ↔ jAr (dC, dI) (ca 1) (fun j z => True) n a H) (hB167 : ∀ n G a H, B 167 n G a H ↔ jAr (dC, dI) (ca 1) (fun j z => True) n a H) (G0 : jT) (H0 : Heap) (r0 : Nat) (r1 : Nat) (n1 : Nat) (pk : Int32) (pa : Int32) : Met l yX13_isWord (jw yX13_isWord cX13_isWord 2 (some .boolean)) ({ frames := 5, cells := 0, slots := 0, locals := 165 }) (va_Pc [.ref r0, .ref r1] (fun U => U.heap = H0 ∧ jX B base G0 [] H0 ∧ jG dC dI ca base U ∧ jStr base r1 n1 U H0 ∧ G0 r0 = some (15, 0) ∧ jP (dC, dI) G0 H0 [(r0, 15, 30, .int pk), (r0, 15, 32, .int pa)] ∧ 0 ≤ pk.toInt ∧ pk.toInt ≤ 1500 ∧ 0 ≤ pa.toInt ∧ pa.toInt ≤ 1600 ∧ n1 ≤ 1000)) (va_Qi (S := Unit) (fun r u => (r = 0 ∨ r = 1) ∧ (r.toInt = 0 ∨ pa.toInt < pk.toInt)) (fun u t => jRt (dC, dI) B base G0 EX13_isWord H0 [] t.heap) (jA base)) 0 0 (jA base) := by
  refine Met.ofW (cc := cX13_isWord) (maxL := 2) (ret := (some .boolean)) (by decide) rfl ?_
  intro p e s m args below meth c s₁ Bd hml hv
  obtain ⟨rfl, hH0, hX, hG, hstr_r1, hg_r0, hP0, hp0, hp1, hp2, hp3, hp4⟩ := hv
  have hK := hG.1
  have hx := Bd.exec
  have hb := Bd.bytes
  have hr := Bd.returns
  have hts := atoms_spec (ws := (jw yX13_isWord cX13_isWord 2 (some .boolean))) Bd.pre
  have htw : ∀ w ∈ jWl, w.before _ s = true := fun w h => hts w (List.mem_cons_of_mem _ h)
  have hown : s.vm.findClass RX13 = some m.cls := findClass_of_methodNamed Bd.named
  have hlocks := Bd.notSynchronized
  obtain ⟨Q, hQ⟩ : ∃ Q, Q = MQ below (va_Qi (S := Unit) (fun r u => (r = 0 ∨ r = 1) ∧ (r.toInt = 0 ∨ pa.toInt < pk.toInt)) (fun u t => jRt (dC, dI) B base G0 EX13_isWord H0 [] t.heap) (jA base)) ([.ref r0, .ref r1] : List Value).toArray s 0 0 (jA base) := ⟨_, rfl⟩
  rw [← hQ]
  have hl := lv_entry ([.ref r0, .ref r1]) (n := 2) (Nat.le_of_ble_eq_true rfl)
  rw [lg_entry_eq]
  generalize (lg_sl ([.ref r0, .ref r1]) ++ List.replicate (2 - (lg_sl ([.ref r0, .ref r1])).length) Slot.unset).toArray = ls at hl ⊢
  have hl : lv_has ls 2 [(0, .ref r0), (1, .ref r1)] := hl
  generalize hR : (headSpec (jw yX13_isWord cX13_isWord 2 (some .boolean)) ({ frames := 5, cells := 0, slots := 0, locals := 165 })).room = R
  subst hH0
  have hh : jSt (dC, dI) B base G0 G0 EX13_isWord s.heap 0 0 [(r0, 15, 30, .int pk), (r0, 15, 32, .int pa)] [] [] s.heap [] := jSt.start hX hP0 jMc.nil jIs.nil
  clear hX hP0
  have hk0 : (0 : Int32).toInt = 0 := by decide
  have hk1 : (1 : Int32).toInt = 1 := by decide
  have hly_15_28 := htw (u_lay RX13 TX13 28) (jWc_wsX130 _ (u_in_lay (by decide)))
  have hly_15_29 := htw (u_lay RX13 TX13 29) (jWc_wsX130 _ (u_in_lay (by decide)))
  have hly_15_30 := htw (u_lay RX13 TX13 30) (jWc_wsX130 _ (u_in_lay (by decide)))
  have hly_15_32 := htw (u_lay RX13 TX13 32) (jWc_wsX130 _ (u_in_lay (by decide)))
  have hlk_171 := (htw (.fieldLink RX13 171 "ProofServerModel$Kernel" "at" "I") (jWr_61 _ (List.mem_of_getElem? (i := 11) rfl)))
  have hlk_140 := (htw (.fieldLink RX13 140 "ProofServerModel$Kernel" "tokens" "I") (jWr_60 _ (List.mem_of_getElem? (i := 9) rfl)))
  have hlk_71 := (htw (.fieldLink RX13 71 "ProofServerModel$Kernel" "kind" "[I") (jWr_15 _ (List.mem_of_getElem? (i := 4) rfl)))
  have hlk_74 := (htw (.fieldLink RX13 74 "ProofServerModel$Kernel" "what" "[I") (jWr_15 _ (List.mem_of_getElem? (i := 5) rfl)))
  refine lv_aload_n hx hb dX13_isWord_0 rfl (lv_at hl 0 rfl) ?_
  refine j7_read hx hb hown hK (C := RX13) (T := TX13) (N := 50) rfl hly_15_32 hlk_171 (hh.at 1 rfl) dX13_isWord_1 ?_
  refine lv_aload_n hx hb dX13_isWord_4 rfl (lv_at hl 0 rfl) ?_
  refine j7_read hx hb hown hK (C := RX13) (T := TX13) (N := 50) rfl hly_15_30 hlk_140 (hh.at 0 rfl) dX13_isWord_5 ?_
  refine lv_icmp_ge (tgt := 45) hx hb dX13_isWord_8 (by decide) (fun c_1 => ?_) (fun c_1 => ?_)
  · skip
    have c_1' : pa.toInt ≥ pk.toInt := jb_ge (rfl) (rfl) c_1
    refine lv_iconst (v := 0) hx hb dX13_isWord_45 (by decide) ?_
    rw [hQ]
    exact W.zret (v := 0) hx hb hr (jb_nz (Or.inl rfl)) (fun t ht hW => ⟨⟨0, (), rfl, ⟨(Or.inl rfl), by first | omega | rfl | assumption | decide | exact Or.inl rfl | exact Or.inr rfl | (simp only; omega)⟩, hh.rt (M1 := []) [] rfl ht⟩, by rw [ht]; try exact hh.1.1, fun q h9 hq => by rw [ht]; try exact hh.1.2.1 q h9 hq⟩) hh.1.2.2 dX13_isWord_46
  · skip
    have c_1' : pa.toInt < pk.toInt := jb_ge_n (rfl) (rfl) c_1
    refine lv_aload_n hx hb dX13_isWord_11 rfl (lv_at hl 0 rfl) ?_
    obtain ⟨v_2, hv_2, hh_3⟩ := hh.pin (C := RX13) (T := TX13) (N := 50) hB15 rfl (by decide) hg_r0 (i := 28) (by decide) rfl
    clear hh
    obtain ⟨kind_4, rfl, hg_kind_4⟩ := hv_2
    refine j7_read hx hb hown hK (C := RX13) (T := TX13) (N := 50) rfl hly_15_28 hlk_71 (hh_3.at 0 rfl) dX13_isWord_12 ?_
    refine lv_aload_n hx hb dX13_isWord_15 rfl (lv_at hl 0 rfl) ?_
    refine j7_read hx hb hown hK (C := RX13) (T := TX13) (N := 50) rfl hly_15_32 hlk_171 (hh_3.at 2 rfl) dX13_isWord_16 ?_
    refine j7_iald hx hb hK hh_3 hB167 1 rfl (by decide) hg_kind_4 (x := pa.toInt) (rfl) (by omega) dX13_isWord_19 (fun z_5 (hz_5 : True) => ?_)
    refine lv_iconst (v := 1) hx hb dX13_isWord_20 (by decide) ?_
    refine lv_icmp_ne (tgt := 45) hx hb dX13_isWord_21 (by decide) (fun c_6 => ?_) (fun c_6 => ?_)
    · skip
      have c_6' : z_5.toInt ≠ 1 := jb_ne (rfl) ((by decide)) c_6
      refine lv_iconst (v := 0) hx hb dX13_isWord_45 (by decide) ?_
      rw [hQ]
      exact W.zret (v := 0) hx hb hr (jb_nz (Or.inl rfl)) (fun t ht hW => ⟨⟨0, (), rfl, ⟨(Or.inl rfl), by first | omega | rfl | assumption | decide | exact Or.inl rfl | exact Or.inr rfl | (simp only; omega)⟩, hh_3.rt (M1 := []) [] rfl ht⟩, by rw [ht]; try exact hh_3.1.1, fun q h9 hq => by rw [ht]; try exact hh_3.1.2.1 q h9 hq⟩) hh_3.1.2.2 dX13_isWord_46
    · skip
      have c_6' : z_5.toInt = 1 := jb_ne_n (rfl) ((by decide)) c_6
      refine lv_aload_n hx hb dX13_isWord_24 rfl (lv_at hl 0 rfl) ?_
      refine lv_aload_n hx hb dX13_isWord_25 rfl (lv_at hl 0 rfl) ?_
      obtain ⟨v_7, hv_7, hh_8⟩ := hh_3.pin (C := RX13) (T := TX13) (N := 50) hB15 rfl (by decide) hg_r0 (i := 29) (by decide) rfl
      clear hh_3
      obtain ⟨what_9, rfl, hg_what_9⟩ := hv_7
      refine j7_read hx hb hown hK (C := RX13) (T := TX13) (N := 50) rfl hly_15_29 hlk_74 (hh_8.at 0 rfl) dX13_isWord_26 ?_
      refine lv_aload_n hx hb dX13_isWord_29 rfl (lv_at hl 0 rfl) ?_
      refine j7_read hx hb hown hK (C := RX13) (T := TX13) (N := 50) rfl hly_15_32 hlk_171 (hh_8.at 3 rfl) dX13_isWord_30 ?_
      refine j7_iald hx hb hK hh_8 hB157 1 rfl (by decide) hg_what_9 (x := pa.toInt) (rfl) (by omega) dX13_isWord_33 (fun z_10 (hz_10 : 0 ≤ z_10.toInt ∧ z_10.toInt ≤ 1599) => ?_)
      refine lv_aload_n hx hb dX13_isWord_34 rfl (lv_at hl 1 rfl) ?_
      refine va_calli (A0 := jA base) (H0 := s.heap) (va_runV (As := [.int z_10, .ref r1]) (rest := []) ⟨hx, hb, hml, hown, hts⟩ (uX13_isNamed l dC dI ca base B hB hAp hB15 hB155 hB156 hB166 G0 s.heap r0 z_10 r1 n1) (cwV 2 hts (jgV (jWr_62 _ (List.mem_of_getElem? (i := 5) rfl)) (jWr_62 _ (List.mem_of_getElem? (i := 6) rfl)) (jWr_62 _ (List.mem_of_getElem? (i := 7) rfl)) (jWr_12 _ (List.mem_of_getElem? (i := 12) rfl)) (jWr_62 _ (List.mem_of_getElem? (i := 8) rfl))) rfl rfl rfl (by decide +kernel) ⟨by rw [← hR]; exact Nat.le_of_ble_eq_true rfl, by rw [← hR]; exact Nat.le_of_ble_eq_true rfl⟩) ⟨fun a U g mk q => by obtain ⟨q0, q1, q2, qK, q10, q11, q12, q13⟩ := q; exact ⟨q0, q1, q2, jG.calling g mk a qK, (q10.moved (Vm.Alike.refl U.vm)), q11, q12, q13⟩, hh_8.recv (C := RX13) (T := TX13) (N := 50) hB15 rfl (by decide) hg_r0 hK, fun U hU hW => ⟨rfl, hU, hh_8.2.1, hG.step hW hU hh_8.1, (hstr_r1.moved hW.alike).kept hh_8.1.2.1, hg_r0, jP.nil, by first | omega | (refine ⟨?_, ?_, ?_⟩ <;> (first | omega | rfl | assumption | decide | exact Or.inl rfl | exact Or.inr rfl | (simp only; omega)))⟩⟩ rfl rfl hl.1 rfl (lv_room (Nat.le_of_ble_eq_true rfl)) dX13_isWord_35 ⟨Nat.zero_le _, Nat.zero_le _⟩) hh_8.1 (fun q _ h => h) (fun q h => h) (fun r_12 u_11 t_11 H_11 locs_11 ht_11 hvm_11 hr_12 hb_11 hz_11 hk_11 hS_11 => ?_)
      rw [ht_11] at hb_11
      obtain ⟨hb_111, hb_112, hb_113, hb_114, hb_115⟩ := hb_11
      have hh_11 : jSt (dC, dI) B base G0 G0 EX13_isWord s.heap 0 0 [(r0, 15, 29, .ref what_9), (r0, 15, 28, .ref kind_4), (r0, 15, 30, .int pk), (r0, 15, 32, .int pa)] [] [] H_11 locs_11 := ((hh_8.call hb_111 hb_112 hb_113 hb_114 hS_11 rfl (L1 := [(r0, 15, 29, .ref what_9), (r0, 15, 28, .ref kind_4), (r0, 15, 30, .int pk), (r0, 15, 32, .int pa)]) [0, 1, 2, 3] rfl rfl (M1 := []) [] rfl rfl (I1 := []) [] rfl rfl).more hb_115)
      clear hh_8 ht_11 hvm_11 hz_11 hk_11 hS_11 hb_111 hb_112 hb_113 hb_114 hb_115
      obtain ⟨hr_12b, hr_12p⟩ := hr_12
      have hr_12' := jb_01 hr_12b
      refine lv_if_eq (tgt := 45) hx hb dX13_isWord_38 (by decide) (fun c_13 => ?_) (fun c_13 => ?_)
      · skip
        have c_13' : r_12.toInt = 0 := jb_eq (rfl) ((by decide)) c_13
        refine lv_iconst (v := 0) hx hb dX13_isWord_45 (by decide) ?_
        rw [hQ]
        exact W.zret (v := 0) hx hb hr (jb_nz (Or.inl rfl)) (fun t ht hW => ⟨⟨0, (), rfl, ⟨(Or.inl rfl), by first | omega | rfl | assumption | decide | exact Or.inl rfl | exact Or.inr rfl | (simp only; omega)⟩, hh_11.rt (M1 := []) [] rfl ht⟩, by rw [ht]; try exact hh_11.1.1, fun q h9 hq => by rw [ht]; try exact hh_11.1.2.1 q h9 hq⟩) hh_11.1.2.2 dX13_isWord_46
      · skip
        have c_13' : r_12.toInt ≠ 0 := jb_eq_n (rfl) ((by decide)) c_13
        refine lv_iconst (v := 1) hx hb dX13_isWord_41 (by decide) ?_
        refine lv_goto (tgt := 46) hx hb dX13_isWord_42 (by decide) ?_
        rw [hQ]
        exact W.zret (v := 1) hx hb hr (jb_nz (Or.inr rfl)) (fun t ht hW => ⟨⟨1, (), rfl, ⟨(Or.inr rfl), by first | omega | rfl | assumption | decide | exact Or.inl rfl | exact Or.inr rfl | (simp only; omega)⟩, hh_11.rt (M1 := []) [] rfl ht⟩, by rw [ht]; try exact hh_11.1.1, fun q h9 hq => by rw [ht]; try exact hh_11.1.2.1 q h9 hq⟩) hh_11.1.2.2 dX13_isWord_46
set_option maxHeartbeats 4000000 in
set_option maxRecDepth 20000 in
theorem uX13_expect (l : Launch) (dC : Nat → ClassId) (dI : Nat → Nat → Nat) (ca : Nat → ClassId) (base : Nat) (B : jF) (hB : jBok B) (hAp : jAp (dC, dI)) (hB15 : ∀ n G a H, B 15 n G a H ↔ jOb (dC, dI) 15 50 (F15 n G) a H) (hB157 : ∀ n G a H, B 157 n G a H ↔ jAr (dC, dI) (ca 1) (fun j z => 0 ≤ z.toInt ∧ z.toInt ≤ 1599) n a H) (hB167 : ∀ n G a H, B 167 n G a H ↔ jAr (dC, dI) (ca 1) (fun j z => True) n a H) (G0 : jT) (H0 : Heap) (r0 : Nat) (a1 : Int32) (pk : Int32) (pa : Int32) : Met l yX13_expect (jw yX13_expect cX13_expect 2 none) ({ frames := 1, cells := 0, slots := 0, locals := 21 }) (va_Pc [.ref r0, .int a1] (fun U => U.heap = H0 ∧ jX B base G0 [] H0 ∧ jG dC dI ca base U ∧ G0 r0 = some (15, 0) ∧ jP (dC, dI) G0 H0 [(r0, 15, 30, .int pk), (r0, 15, 32, .int pa)] ∧ 0 ≤ pk.toInt ∧ pk.toInt ≤ 1500 ∧ 0 ≤ pa.toInt ∧ pa.toInt ≤ 1600)) (va_Qv (S := Int32) (fun u => pa.toInt ≤ u.toInt ∧ u.toInt ≤ pa.toInt + 1 ∧ (u.toInt = pa.toInt ∨ u.toInt ≤ pk.toInt)) (fun u t => jRt (dC, dI) B base G0 EX13_expect H0 [(r0, 15, 32, .int u)] t.heap) (jA base)) 0 0 (jA base) := by
  refine Met.ofW (cc := cX13_expect) (maxL := 2) (ret := none) (by decide) rfl ?_
  intro p e s m args below meth c s₁ Bd hml hv
  obtain ⟨rfl, hH0, hX, hG, hg_r0, hP0, hp0, hp1, hp2, hp3⟩ := hv
  have hK := hG.1
  have hx := Bd.exec
  have hb := Bd.bytes
  have hr := Bd.returns
  have hts := atoms_spec (ws := (jw yX13_expect cX13_expect 2 none)) Bd.pre
  have htw : ∀ w ∈ jWl, w.before _ s = true := fun w h => hts w (List.mem_cons_of_mem _ h)
  have hown : s.vm.findClass RX13 = some m.cls := findClass_of_methodNamed Bd.named
  have hlocks := Bd.notSynchronized
  obtain ⟨Q, hQ⟩ : ∃ Q, Q = MQ below (va_Qv (S := Int32) (fun u => pa.toInt ≤ u.toInt ∧ u.toInt ≤ pa.toInt + 1 ∧ (u.toInt = pa.toInt ∨ u.toInt ≤ pk.toInt)) (fun u t => jRt (dC, dI) B base G0 EX13_expect H0 [(r0, 15, 32, .int u)] t.heap) (jA base)) ([.ref r0, .int a1] : List Value).toArray s 0 0 (jA base) := ⟨_, rfl⟩
  rw [← hQ]
  have hl := lv_entry ([.ref r0, .int a1]) (n := 2) (Nat.le_of_ble_eq_true rfl)
  rw [lg_entry_eq]
  generalize (lg_sl ([.ref r0, .int a1]) ++ List.replicate (2 - (lg_sl ([.ref r0, .int a1])).length) Slot.unset).toArray = ls at hl ⊢
  have hl : lv_has ls 2 [(0, .ref r0), (1, .int a1)] := hl
  generalize hR : (headSpec (jw yX13_expect cX13_expect 2 none) ({ frames := 1, cells := 0, slots := 0, locals := 21 })).room = R
  subst hH0
  have hh : jSt (dC, dI) B base G0 G0 EX13_expect s.heap 0 0 [(r0, 15, 30, .int pk), (r0, 15, 32, .int pa)] [] [] s.heap [] := jSt.start hX hP0 jMc.nil jIs.nil
  clear hX hP0
  have hk0 : (0 : Int32).toInt = 0 := by decide
  have hk1 : (1 : Int32).toInt = 1 := by decide
  have hly_15_32 := htw (u_lay RX13 TX13 32) (jWc_wsX130 _ (u_in_lay (by decide)))
  have hly_15_33 := htw (u_lay RX13 TX13 33) (jWc_wsX130 _ (u_in_lay (by decide)))
  have hlk_171 := (htw (.fieldLink RX13 171 "ProofServerModel$Kernel" "at" "I") (jWr_61 _ (List.mem_of_getElem? (i := 11) rfl)))
  have hlk_181 := (htw (.fieldLink RX13 181 "ProofServerModel$Kernel" "wrong" "Z") (jWr_60 _ (List.mem_of_getElem? (i := 2) rfl)))
  have hrg_a1 := jb_rng a1
  refine lv_aload_n hx hb dX13_expect_0 rfl (lv_at hl 0 rfl) ?_
  refine lv_iload_n hx hb dX13_expect_1 rfl (lv_at hl 1 rfl) ?_
  obtain ⟨v_3, hv_3, hh_4⟩ := hh.pin (C := RX13) (T := TX13) (N := 50) hB15 rfl (by decide) hg_r0 (i := 28) (by decide) rfl
  obtain ⟨kind_5, rfl, hg_kind_5⟩ := hv_3
  obtain ⟨v_6, hv_6, hh_7⟩ := hh_4.pin (C := RX13) (T := TX13) (N := 50) hB15 rfl (by decide) hg_r0 (i := 29) (by decide) rfl
  obtain ⟨what_8, rfl, hg_what_8⟩ := hv_6
  obtain ⟨f_fk_9, hh_9⟩ := hh_7.cpin hB167 (by decide) (by decide) hg_kind_5
  clear hh_7
  obtain ⟨f_fw_10, hh_10⟩ := hh_9.cpin hB157 (by decide) (by decide) hg_what_8
  clear hh_9
  refine va_calli (A0 := jA base) (H0 := s.heap) (va_runV (As := [.int a1]) (rest := []) ⟨hx, hb, hml, hown, hts⟩ (uX13_is l dC dI ca base B hB hAp hB15 hB157 hB167 G0 s.heap r0 a1 pk pa kind_5 1500 what_8 1500 f_fk_9 f_fw_10) (cwV 1 hts (jgV (jWr_62 _ (List.mem_of_getElem? (i := 13) rfl)) (jWr_62 _ (List.mem_of_getElem? (i := 14) rfl)) (jWr_62 _ (List.mem_of_getElem? (i := 15) rfl)) (jWr_12 _ (List.mem_of_getElem? (i := 12) rfl)) (jWr_62 _ (List.mem_of_getElem? (i := 16) rfl))) rfl rfl rfl (by decide +kernel) ⟨by rw [← hR]; exact Nat.le_of_ble_eq_true rfl, by rw [← hR]; exact Nat.le_of_ble_eq_true rfl⟩) ⟨fun a U g mk q => by obtain ⟨q0, q1, q2, qK, q10, q11, q12, q13, q14, q15⟩ := q; exact ⟨q0, q1, q2, jG.calling g mk a qK, q10, q11, q12, q13, q14, q15⟩, hh_10.recv (C := RX13) (T := TX13) (N := 50) hB15 rfl (by decide) hg_r0 hK, fun U hU hW => ⟨rfl, hU, hh_10.2.1, hG.step hW hU hh_10.1, hg_r0, hg_kind_5, hg_what_8, (hh_10.2.2.1.sub (L1 := [(r0, 15, 30, .int pk), (r0, 15, 32, .int pa), (r0, 15, 28, .ref kind_5), (r0, 15, 29, .ref what_8)]) [2, 3, 1, 0] rfl), (hh_10.2.2.2.2.2.2.2.1.sub (L1 := [(kind_5, 167, 1500, ca 1, f_fk_9), (what_8, 157, 1500, ca 1, f_fw_10)]) [1, 0] rfl), by first | omega | (refine ⟨?_, ?_, ?_, ?_, ?_, ?_⟩ <;> (first | omega | rfl | assumption | decide | exact Or.inl rfl | exact Or.inr rfl | (simp only; omega)))⟩⟩ rfl rfl hl.1 rfl (lv_room (Nat.le_of_ble_eq_true rfl)) dX13_expect_2 ⟨Nat.zero_le _, Nat.zero_le _⟩) hh_10.1 (fun q _ h => h) (fun q h => h) (fun r_2 u_1 t_1 H_1 locs_1 ht_1 hvm_1 hr_2 hb_1 hz_1 hk_1 hS_1 => ?_)
  rw [ht_1] at hb_1
  obtain ⟨hb_11, hb_12, hb_13, hb_14, hb_15⟩ := hb_1
  have hh_1 : jSt (dC, dI) B base G0 G0 EX13_expect s.heap 0 0 [(r0, 15, 29, .ref what_8), (r0, 15, 28, .ref kind_5), (r0, 15, 30, .int pk), (r0, 15, 32, .int pa)] [(what_8, 157, 1500, ca 1, f_fw_10), (kind_5, 167, 1500, ca 1, f_fk_9)] [] H_1 locs_1 := ((hh_10.call hb_11 hb_12 hb_13 hb_14 hS_1 rfl (L1 := [(r0, 15, 29, .ref what_8), (r0, 15, 28, .ref kind_5), (r0, 15, 30, .int pk), (r0, 15, 32, .int pa)]) [0, 1, 2, 3] rfl rfl (M1 := [(what_8, 157, 1500, ca 1, f_fw_10), (kind_5, 167, 1500, ca 1, f_fk_9)]) [0, 1] rfl rfl (I1 := []) [] rfl rfl).more hb_15)
  clear hh_10 ht_1 hvm_1 hz_1 hk_1 hS_1 hb_11 hb_12 hb_13 hb_14 hb_15
  obtain ⟨hr_2b, hr_2p⟩ := hr_2
  obtain ⟨hr_2p_0, hr_2p_1⟩ := hr_2p
  have hr_2' := jb_01 hr_2b
  refine lv_if_eq (tgt := 21) hx hb dX13_expect_5 (by decide) (fun c_11 => ?_) (fun c_11 => ?_)
  · skip
    have c_11' : r_2.toInt = 0 := jb_eq (rfl) ((by decide)) c_11
    refine lv_aload_n hx hb dX13_expect_21 rfl (lv_at hl 0 rfl) ?_
    refine lv_iconst (v := 1) hx hb dX13_expect_22 (by decide) ?_
    refine j7_put hx hb hown hK hh_1 hB hAp hB15 (C := RX13) (T := TX13) (N := 50) rfl (by decide) hg_r0 (i := 33) (by decide) hly_15_33 rfl hlk_181 rfl (ty := .boolean) (v := .int 1) (by decide +kernel) (jb_nz (Or.inr rfl)) (jb_fz (Or.inr rfl)) (⟨_, rfl, (Or.inr rfl)⟩) rfl (L1 := [(r0, 15, 29, .ref what_8), (r0, 15, 28, .ref kind_5), (r0, 15, 30, .int pk), (r0, 15, 32, .int pa)]) [0, 1, 2, 3] rfl rfl rfl dX13_expect_23 (fun H_12 locs_12 hh_12 => ?_)
    clear hh_1
    rw [hQ]
    exact W.vret hx hb hr (fun t ht hW => ⟨⟨pa, rfl, by first | omega | (refine ⟨?_, ?_, ?_⟩ <;> (first | omega | rfl | assumption | decide | exact Or.inl rfl | exact Or.inr rfl | (simp only; omega))), hh_12.rt (M1 := [(r0, 15, 32, .int pa)]) [4] rfl ht⟩, by rw [ht]; try exact hh_12.1.1, fun q h9 hq => by rw [ht]; try exact hh_12.1.2.1 q h9 hq⟩) hh_12.1.2.2 dX13_expect_26
  · skip
    have c_11' : r_2.toInt ≠ 0 := jb_eq_n (rfl) ((by decide)) c_11
    refine lv_aload_n hx hb dX13_expect_8 rfl (lv_at hl 0 rfl) ?_
    refine lv_dup hx hb dX13_expect_9 rfl ?_
    refine j7_read hx hb hown hK (C := RX13) (T := TX13) (N := 50) rfl hly_15_32 hlk_171 (hh_1.at 3 rfl) dX13_expect_10 ?_
    refine lv_iconst (v := 1) hx hb dX13_expect_13 (by decide) ?_
    refine lv_iadd hx hb dX13_expect_14 ?_
    refine lv_topi (fun z_13 ez_13 => ?_)
    have hz_13 : z_13.toInt = pa.toInt + 1 := by rw [ez_13]; exact jb_iadd2 (rfl) ((by decide)) (by omega)
    refine j7_put hx hb hown hK hh_1 hB hAp hB15 (C := RX13) (T := TX13) (N := 50) rfl (by decide) hg_r0 (i := 32) (by decide) hly_15_32 rfl hlk_171 rfl (ty := .int) (v := .int z_13) (by decide +kernel) rfl rfl (⟨_, rfl, by omega, by omega⟩) rfl (L1 := [(r0, 15, 29, .ref what_8), (r0, 15, 28, .ref kind_5), (r0, 15, 30, .int pk)]) [0, 1, 2] rfl rfl rfl dX13_expect_15 (fun H_14 locs_14 hh_14 => ?_)
    clear hh_1
    refine lv_goto (tgt := 26) hx hb dX13_expect_18 (by decide) ?_
    rw [hQ]
    exact W.vret hx hb hr (fun t ht hW => ⟨⟨z_13, rfl, by first | omega | (refine ⟨?_, ?_, ?_⟩ <;> (first | omega | rfl | assumption | decide | exact Or.inl rfl | exact Or.inr rfl | (simp only; omega))), hh_14.rt (M1 := [(r0, 15, 32, .int z_13)]) [0] rfl ht⟩, by rw [ht]; try exact hh_14.1.1, fun q h9 hq => by rw [ht]; try exact hh_14.1.2.1 q h9 hq⟩) hh_14.1.2.2 dX13_expect_26
set_option maxHeartbeats 4000000 in
set_option maxRecDepth 20000 in
theorem uX13_readName (l : Launch) (dC : Nat → ClassId) (dI : Nat → Nat → Nat) (ca : Nat → ClassId) (base : Nat) (B : jF) (hB : jBok B) (hAp : jAp (dC, dI)) (hB15 : ∀ n G a H, B 15 n G a H ↔ jOb (dC, dI) 15 50 (F15 n G) a H) (hB155 : ∀ n G a H, B 155 n G a H ↔ jAr (dC, dI) (ca 1) (fun j z => 0 ≤ z.toInt ∧ z.toInt ≤ 11990) n a H) (hB156 : ∀ n G a H, B 156 n G a H ↔ jAr (dC, dI) (ca 1) (fun j z => 0 ≤ z.toInt ∧ z.toInt ≤ 10) n a H) (hB157 : ∀ n G a H, B 157 n G a H ↔ jAr (dC, dI) (ca 1) (fun j z => 0 ≤ z.toInt ∧ z.toInt ≤ 1599) n a H) (hB166 : ∀ n G a H, B 166 n G a H ↔ jAr (dC, dI) (ca 1) (fun j z => True) n a H) (hB167 : ∀ n G a H, B 167 n G a H ↔ jAr (dC, dI) (ca 1) (fun j z => True) n a H) (G0 : jT) (H0 : Heap) (r0 : Nat) (pk : Int32) (pa : Int32) : Met l yX13_readName (jw yX13_readName cX13_readName 1 (some .int)) ({ frames := 6, cells := 0, slots := 0, locals := 186 }) (va_Pc [.ref r0] (fun U => U.heap = H0 ∧ jX B base G0 [] H0 ∧ jG dC dI ca base U ∧ G0 r0 = some (15, 0) ∧ jP (dC, dI) G0 H0 [(r0, 15, 30, .int pk), (r0, 15, 32, .int pa)] ∧ 0 ≤ pk.toInt ∧ pk.toInt ≤ 1500 ∧ 0 ≤ pa.toInt ∧ pa.toInt ≤ 1600)) (va_Qi (S := Int32) (fun r u => (0 ≤ r.toInt ∧ r.toInt ≤ 1599 ∧ pa.toInt ≤ u.toInt ∧ u.toInt ≤ pa.toInt + 1 ∧ (u.toInt = pa.toInt ∨ u.toInt ≤ pk.toInt))) (fun u t => jRt (dC, dI) B base G0 EX13_readName H0 [(r0, 15, 32, .int u)] t.heap) (jA base)) 0 0 (jA base) := by
  refine Met.ofW (cc := cX13_readName) (maxL := 1) (ret := (some .int)) (by decide) rfl ?_
  intro p e s m args below meth c s₁ Bd hml hv
  obtain ⟨rfl, hH0, hX, hG, hg_r0, hP0, hp0, hp1, hp2, hp3⟩ := hv
  have hK := hG.1
  have hx := Bd.exec
  have hb := Bd.bytes
  have hr := Bd.returns
  have hts := atoms_spec (ws := (jw yX13_readName cX13_readName 1 (some .int))) Bd.pre
  have htw : ∀ w ∈ jWl, w.before _ s = true := fun w h => hts w (List.mem_cons_of_mem _ h)
  have hown : s.vm.findClass RX13 = some m.cls := findClass_of_methodNamed Bd.named
  have hlocks := Bd.notSynchronized
  obtain ⟨Q, hQ⟩ : ∃ Q, Q = MQ below (va_Qi (S := Int32) (fun r u => (0 ≤ r.toInt ∧ r.toInt ≤ 1599 ∧ pa.toInt ≤ u.toInt ∧ u.toInt ≤ pa.toInt + 1 ∧ (u.toInt = pa.toInt ∨ u.toInt ≤ pk.toInt))) (fun u t => jRt (dC, dI) B base G0 EX13_readName H0 [(r0, 15, 32, .int u)] t.heap) (jA base)) ([.ref r0] : List Value).toArray s 0 0 (jA base) := ⟨_, rfl⟩
  rw [← hQ]
  have hl := lv_entry ([.ref r0]) (n := 1) (Nat.le_of_ble_eq_true rfl)
  rw [lg_entry_eq]
  generalize (lg_sl ([.ref r0]) ++ List.replicate (1 - (lg_sl ([.ref r0])).length) Slot.unset).toArray = ls at hl ⊢
  have hl : lv_has ls 1 [(0, .ref r0)] := hl
  generalize hR : (headSpec (jw yX13_readName cX13_readName 1 (some .int)) ({ frames := 6, cells := 0, slots := 0, locals := 186 })).room = R
  subst hH0
  have hh : jSt (dC, dI) B base G0 G0 EX13_readName s.heap 0 0 [(r0, 15, 30, .int pk), (r0, 15, 32, .int pa)] [] [] s.heap [] := jSt.start hX hP0 jMc.nil jIs.nil
  clear hX hP0
  have hk0 : (0 : Int32).toInt = 0 := by decide
  have hk1 : (1 : Int32).toInt = 1 := by decide
  have hly_15_28 := htw (u_lay RX13 TX13 28) (jWc_wsX130 _ (u_in_lay (by decide)))
  have hly_15_29 := htw (u_lay RX13 TX13 29) (jWc_wsX130 _ (u_in_lay (by decide)))
  have hly_15_30 := htw (u_lay RX13 TX13 30) (jWc_wsX130 _ (u_in_lay (by decide)))
  have hly_15_32 := htw (u_lay RX13 TX13 32) (jWc_wsX130 _ (u_in_lay (by decide)))
  have hly_15_33 := htw (u_lay RX13 TX13 33) (jWc_wsX130 _ (u_in_lay (by decide)))
  have hlk_171 := (htw (.fieldLink RX13 171 "ProofServerModel$Kernel" "at" "I") (jWr_61 _ (List.mem_of_getElem? (i := 11) rfl)))
  have hlk_140 := (htw (.fieldLink RX13 140 "ProofServerModel$Kernel" "tokens" "I") (jWr_60 _ (List.mem_of_getElem? (i := 9) rfl)))
  have hlk_71 := (htw (.fieldLink RX13 71 "ProofServerModel$Kernel" "kind" "[I") (jWr_15 _ (List.mem_of_getElem? (i := 4) rfl)))
  obtain ⟨str184, rstr184, hstr1840⟩ := hG.str (o := RX13) (k := 184) (tx := "forall") (List.mem_of_getElem? (i := 2609) (by decide +kernel))
  have hstr184 : jStr base str184 6 s s.heap := hstr1840
  obtain ⟨str190, rstr190, hstr1900⟩ := hG.str (o := RX13) (k := 190) (tx := "exists") (List.mem_of_getElem? (i := 2618) (by decide +kernel))
  have hstr190 : jStr base str190 6 s s.heap := hstr1900
  obtain ⟨str192, rstr192, hstr1920⟩ := hG.str (o := RX13) (k := 192) (tx := "False") (List.mem_of_getElem? (i := 2619) (by decide +kernel))
  have hstr192 : jStr base str192 5 s s.heap := hstr1920
  have hlk_181 := (htw (.fieldLink RX13 181 "ProofServerModel$Kernel" "wrong" "Z") (jWr_60 _ (List.mem_of_getElem? (i := 2) rfl)))
  have hlk_74 := (htw (.fieldLink RX13 74 "ProofServerModel$Kernel" "what" "[I") (jWr_15 _ (List.mem_of_getElem? (i := 5) rfl)))
  refine lv_aload_n hx hb dX13_readName_0 rfl (lv_at hl 0 rfl) ?_
  refine j7_read hx hb hown hK (C := RX13) (T := TX13) (N := 50) rfl hly_15_32 hlk_171 (hh.at 1 rfl) dX13_readName_1 ?_
  refine lv_aload_n hx hb dX13_readName_4 rfl (lv_at hl 0 rfl) ?_
  refine j7_read hx hb hown hK (C := RX13) (T := TX13) (N := 50) rfl hly_15_30 hlk_140 (hh.at 0 rfl) dX13_readName_5 ?_
  refine lv_icmp_ge (tgt := 51) hx hb dX13_readName_8 (by decide) (fun c_1 => ?_) (fun c_1 => ?_)
  · skip
    have c_1' : pa.toInt ≥ pk.toInt := jb_ge (rfl) (rfl) c_1
    refine lv_aload_n hx hb dX13_readName_51 rfl (lv_at hl 0 rfl) ?_
    refine lv_iconst (v := 1) hx hb dX13_readName_52 (by decide) ?_
    refine j7_put hx hb hown hK hh hB hAp hB15 (C := RX13) (T := TX13) (N := 50) rfl (by decide) hg_r0 (i := 33) (by decide) hly_15_33 rfl hlk_181 rfl (ty := .boolean) (v := .int 1) (by decide +kernel) (jb_nz (Or.inr rfl)) (jb_fz (Or.inr rfl)) (⟨_, rfl, (Or.inr rfl)⟩) rfl (L1 := [(r0, 15, 30, .int pk), (r0, 15, 32, .int pa)]) [0, 1] rfl rfl rfl dX13_readName_53 (fun H_2 locs_2 hh_2 => ?_)
    clear hh
    refine lv_iconst (v := 0) hx hb dX13_readName_56 (by decide) ?_
    rw [hQ]
    exact W.iret (v := 0) hx hb hr (fun t ht hW => ⟨⟨0, pa, rfl, by first | omega | (refine ⟨?_, ?_, ?_, ?_, ?_⟩ <;> (first | omega | rfl | assumption | decide | exact Or.inl rfl | exact Or.inr rfl | (simp only; omega))), hh_2.rt (M1 := [(r0, 15, 32, .int pa)]) [2] rfl ht⟩, by rw [ht]; try exact hh_2.1.1, fun q h9 hq => by rw [ht]; try exact hh_2.1.2.1 q h9 hq⟩) hh_2.1.2.2 dX13_readName_57
  · skip
    have c_1' : pa.toInt < pk.toInt := jb_ge_n (rfl) (rfl) c_1
    refine lv_aload_n hx hb dX13_readName_11 rfl (lv_at hl 0 rfl) ?_
    obtain ⟨v_3, hv_3, hh_4⟩ := hh.pin (C := RX13) (T := TX13) (N := 50) hB15 rfl (by decide) hg_r0 (i := 28) (by decide) rfl
    clear hh
    obtain ⟨kind_5, rfl, hg_kind_5⟩ := hv_3
    refine j7_read hx hb hown hK (C := RX13) (T := TX13) (N := 50) rfl hly_15_28 hlk_71 (hh_4.at 0 rfl) dX13_readName_12 ?_
    refine lv_aload_n hx hb dX13_readName_15 rfl (lv_at hl 0 rfl) ?_
    refine j7_read hx hb hown hK (C := RX13) (T := TX13) (N := 50) rfl hly_15_32 hlk_171 (hh_4.at 2 rfl) dX13_readName_16 ?_
    refine j7_iald hx hb hK hh_4 hB167 1 rfl (by decide) hg_kind_5 (x := pa.toInt) (rfl) (by omega) dX13_readName_19 (fun z_6 (hz_6 : True) => ?_)
    refine lv_iconst (v := 1) hx hb dX13_readName_20 (by decide) ?_
    refine lv_icmp_ne (tgt := 51) hx hb dX13_readName_21 (by decide) (fun c_7 => ?_) (fun c_7 => ?_)
    · skip
      have c_7' : z_6.toInt ≠ 1 := jb_ne (rfl) ((by decide)) c_7
      refine lv_aload_n hx hb dX13_readName_51 rfl (lv_at hl 0 rfl) ?_
      refine lv_iconst (v := 1) hx hb dX13_readName_52 (by decide) ?_
      refine j7_put hx hb hown hK hh_4 hB hAp hB15 (C := RX13) (T := TX13) (N := 50) rfl (by decide) hg_r0 (i := 33) (by decide) hly_15_33 rfl hlk_181 rfl (ty := .boolean) (v := .int 1) (by decide +kernel) (jb_nz (Or.inr rfl)) (jb_fz (Or.inr rfl)) (⟨_, rfl, (Or.inr rfl)⟩) rfl (L1 := [(r0, 15, 28, .ref kind_5), (r0, 15, 30, .int pk), (r0, 15, 32, .int pa)]) [0, 1, 2] rfl rfl rfl dX13_readName_53 (fun H_8 locs_8 hh_8 => ?_)
      clear hh_4
      refine lv_iconst (v := 0) hx hb dX13_readName_56 (by decide) ?_
      rw [hQ]
      exact W.iret (v := 0) hx hb hr (fun t ht hW => ⟨⟨0, pa, rfl, by first | omega | (refine ⟨?_, ?_, ?_, ?_, ?_⟩ <;> (first | omega | rfl | assumption | decide | exact Or.inl rfl | exact Or.inr rfl | (simp only; omega))), hh_8.rt (M1 := [(r0, 15, 32, .int pa)]) [3] rfl ht⟩, by rw [ht]; try exact hh_8.1.1, fun q h9 hq => by rw [ht]; try exact hh_8.1.2.1 q h9 hq⟩) hh_8.1.2.2 dX13_readName_57
    · skip
      have c_7' : z_6.toInt = 1 := jb_ne_n (rfl) ((by decide)) c_7
      refine lv_aload_n hx hb dX13_readName_24 rfl (lv_at hl 0 rfl) ?_
      refine va_ldcS hx hb hown rstr184 dX13_readName_25 ?_
      refine va_calli (A0 := jA base) (H0 := s.heap) (va_runV (As := [.ref str184]) (rest := []) ⟨hx, hb, hml, hown, hts⟩ (uX13_isWord l dC dI ca base B hB hAp hB15 hB155 hB156 hB157 hB166 hB167 G0 s.heap r0 str184 6 pk pa) (cwV 1 hts (jgV (jWr_62 _ (List.mem_of_getElem? (i := 1) rfl)) (jWr_62 _ (List.mem_of_getElem? (i := 2) rfl)) (jWr_62 _ (List.mem_of_getElem? (i := 3) rfl)) (jWr_12 _ (List.mem_of_getElem? (i := 12) rfl)) (jWr_62 _ (List.mem_of_getElem? (i := 4) rfl))) rfl rfl rfl (by decide +kernel) ⟨by rw [← hR]; exact Nat.le_of_ble_eq_true rfl, by rw [← hR]; exact Nat.le_of_ble_eq_true rfl⟩) ⟨fun a U g mk q => by obtain ⟨q0, q1, q2, qK, q10, q11, q12, q13⟩ := q; exact ⟨q0, q1, q2, jG.calling g mk a qK, (q10.moved (Vm.Alike.refl U.vm)), q11, q12, q13⟩, hh_4.recv (C := RX13) (T := TX13) (N := 50) hB15 rfl (by decide) hg_r0 hK, fun U hU hW => ⟨rfl, hU, hh_4.2.1, hG.step hW hU hh_4.1, (hstr184.moved hW.alike).kept hh_4.1.2.1, hg_r0, (hh_4.2.2.1.sub (L1 := [(r0, 15, 30, .int pk), (r0, 15, 32, .int pa)]) [1, 2] rfl), by first | omega | (refine ⟨?_, ?_, ?_, ?_, ?_⟩ <;> (first | omega | rfl | assumption | decide | exact Or.inl rfl | exact Or.inr rfl | (simp only; omega)))⟩⟩ rfl rfl hl.1 rfl (lv_room (Nat.le_of_ble_eq_true rfl)) dX13_readName_27 ⟨Nat.zero_le _, Nat.zero_le _⟩) hh_4.1 (fun q _ h => h) (fun q h => h) (fun r_10 u_9 t_9 H_9 locs_9 ht_9 hvm_9 hr_10 hb_9 hz_9 hk_9 hS_9 => ?_)
      rw [ht_9] at hb_9
      obtain ⟨hb_91, hb_92, hb_93, hb_94, hb_95⟩ := hb_9
      have hh_9 : jSt (dC, dI) B base G0 G0 EX13_readName s.heap 0 0 [(r0, 15, 28, .ref kind_5), (r0, 15, 30, .int pk), (r0, 15, 32, .int pa)] [] [] H_9 locs_9 := ((hh_4.call hb_91 hb_92 hb_93 hb_94 hS_9 rfl (L1 := [(r0, 15, 28, .ref kind_5), (r0, 15, 30, .int pk), (r0, 15, 32, .int pa)]) [0, 1, 2] rfl rfl (M1 := []) [] rfl rfl (I1 := []) [] rfl rfl).more hb_95)
      clear hh_4 ht_9 hvm_9 hz_9 hk_9 hS_9 hb_91 hb_92 hb_93 hb_94 hb_95
      obtain ⟨hr_10b, hr_10p⟩ := hr_10
      have hr_10' := jb_01 hr_10b
      refine lv_if_ne (tgt := 51) hx hb dX13_readName_30 (by decide) (fun c_11 => ?_) (fun c_11 => ?_)
      · skip
        have c_11' : r_10.toInt ≠ 0 := jb_ne (rfl) ((by decide)) c_11
        first | (have hr_10pq := hr_10p.resolve_left (by omega); clear hr_10p) | (have hr_10pq := hr_10p.resolve_right (by omega); clear hr_10p) | try clear hr_10p
        refine lv_aload_n hx hb dX13_readName_51 rfl (lv_at hl 0 rfl) ?_
        refine lv_iconst (v := 1) hx hb dX13_readName_52 (by decide) ?_
        refine j7_put hx hb hown hK hh_9 hB hAp hB15 (C := RX13) (T := TX13) (N := 50) rfl (by decide) hg_r0 (i := 33) (by decide) hly_15_33 rfl hlk_181 rfl (ty := .boolean) (v := .int 1) (by decide +kernel) (jb_nz (Or.inr rfl)) (jb_fz (Or.inr rfl)) (⟨_, rfl, (Or.inr rfl)⟩) rfl (L1 := [(r0, 15, 28, .ref kind_5), (r0, 15, 30, .int pk), (r0, 15, 32, .int pa)]) [0, 1, 2] rfl rfl rfl dX13_readName_53 (fun H_12 locs_12 hh_12 => ?_)
        clear hh_9
        refine lv_iconst (v := 0) hx hb dX13_readName_56 (by decide) ?_
        rw [hQ]
        exact W.iret (v := 0) hx hb hr (fun t ht hW => ⟨⟨0, pa, rfl, by first | omega | (refine ⟨?_, ?_, ?_, ?_, ?_⟩ <;> (first | omega | rfl | assumption | decide | exact Or.inl rfl | exact Or.inr rfl | (simp only; omega))), hh_12.rt (M1 := [(r0, 15, 32, .int pa)]) [3] rfl ht⟩, by rw [ht]; try exact hh_12.1.1, fun q h9 hq => by rw [ht]; try exact hh_12.1.2.1 q h9 hq⟩) hh_12.1.2.2 dX13_readName_57
      · skip
        have c_11' : r_10.toInt = 0 := jb_ne_n (rfl) ((by decide)) c_11
        first | (have hr_10pq := hr_10p.resolve_left (by omega); clear hr_10p) | (have hr_10pq := hr_10p.resolve_right (by omega); clear hr_10p) | try clear hr_10p
        refine lv_aload_n hx hb dX13_readName_33 rfl (lv_at hl 0 rfl) ?_
        refine va_ldcS hx hb hown rstr190 dX13_readName_34 ?_
        refine va_calli (A0 := jA base) (H0 := s.heap) (va_runV (As := [.ref str190]) (rest := []) ⟨hx, hb, hml, hown, hts⟩ (uX13_isWord l dC dI ca base B hB hAp hB15 hB155 hB156 hB157 hB166 hB167 G0 H_9 r0 str190 6 pk pa) (cwV 1 hts (jgV (jWr_62 _ (List.mem_of_getElem? (i := 1) rfl)) (jWr_62 _ (List.mem_of_getElem? (i := 2) rfl)) (jWr_62 _ (List.mem_of_getElem? (i := 3) rfl)) (jWr_12 _ (List.mem_of_getElem? (i := 12) rfl)) (jWr_62 _ (List.mem_of_getElem? (i := 4) rfl))) rfl rfl rfl (by decide +kernel) ⟨by rw [← hR]; exact Nat.le_of_ble_eq_true rfl, by rw [← hR]; exact Nat.le_of_ble_eq_true rfl⟩) ⟨fun a U g mk q => by obtain ⟨q0, q1, q2, qK, q10, q11, q12, q13⟩ := q; exact ⟨q0, q1, q2, jG.calling g mk a qK, (q10.moved (Vm.Alike.refl U.vm)), q11, q12, q13⟩, hh_9.recv (C := RX13) (T := TX13) (N := 50) hB15 rfl (by decide) hg_r0 hK, fun U hU hW => ⟨rfl, hU, hh_9.2.1, hG.step hW hU hh_9.1, (hstr190.moved hW.alike).kept hh_9.1.2.1, hg_r0, (hh_9.2.2.1.sub (L1 := [(r0, 15, 30, .int pk), (r0, 15, 32, .int pa)]) [1, 2] rfl), by first | omega | (refine ⟨?_, ?_, ?_, ?_, ?_⟩ <;> (first | omega | rfl | assumption | decide | exact Or.inl rfl | exact Or.inr rfl | (simp only; omega)))⟩⟩ rfl rfl hl.1 rfl (lv_room (Nat.le_of_ble_eq_true rfl)) dX13_readName_36 ⟨Nat.zero_le _, Nat.zero_le _⟩) hh_9.1 (fun q _ h => h) (fun q h => h) (fun r_14 u_13 t_13 H_13 locs_13 ht_13 hvm_13 hr_14 hb_13 hz_13 hk_13 hS_13 => ?_)
        rw [ht_13] at hb_13
        obtain ⟨hb_131, hb_132, hb_133, hb_134, hb_135⟩ := hb_13
        have hh_13 : jSt (dC, dI) B base G0 G0 EX13_readName s.heap 0 0 [(r0, 15, 28, .ref kind_5), (r0, 15, 30, .int pk), (r0, 15, 32, .int pa)] [] [] H_13 locs_13 := ((hh_9.call hb_131 hb_132 hb_133 hb_134 hS_13 rfl (L1 := [(r0, 15, 28, .ref kind_5), (r0, 15, 30, .int pk), (r0, 15, 32, .int pa)]) [0, 1, 2] rfl rfl (M1 := []) [] rfl rfl (I1 := []) [] rfl rfl).more hb_135)
        clear hh_9 ht_13 hvm_13 hz_13 hk_13 hS_13 hb_131 hb_132 hb_133 hb_134 hb_135
        obtain ⟨hr_14b, hr_14p⟩ := hr_14
        have hr_14' := jb_01 hr_14b
        refine lv_if_ne (tgt := 51) hx hb dX13_readName_39 (by decide) (fun c_15 => ?_) (fun c_15 => ?_)
        · skip
          have c_15' : r_14.toInt ≠ 0 := jb_ne (rfl) ((by decide)) c_15
          first | (have hr_14pq := hr_14p.resolve_left (by omega); clear hr_14p) | (have hr_14pq := hr_14p.resolve_right (by omega); clear hr_14p) | try clear hr_14p
          refine lv_aload_n hx hb dX13_readName_51 rfl (lv_at hl 0 rfl) ?_
          refine lv_iconst (v := 1) hx hb dX13_readName_52 (by decide) ?_
          refine j7_put hx hb hown hK hh_13 hB hAp hB15 (C := RX13) (T := TX13) (N := 50) rfl (by decide) hg_r0 (i := 33) (by decide) hly_15_33 rfl hlk_181 rfl (ty := .boolean) (v := .int 1) (by decide +kernel) (jb_nz (Or.inr rfl)) (jb_fz (Or.inr rfl)) (⟨_, rfl, (Or.inr rfl)⟩) rfl (L1 := [(r0, 15, 28, .ref kind_5), (r0, 15, 30, .int pk), (r0, 15, 32, .int pa)]) [0, 1, 2] rfl rfl rfl dX13_readName_53 (fun H_16 locs_16 hh_16 => ?_)
          clear hh_13
          refine lv_iconst (v := 0) hx hb dX13_readName_56 (by decide) ?_
          rw [hQ]
          exact W.iret (v := 0) hx hb hr (fun t ht hW => ⟨⟨0, pa, rfl, by first | omega | (refine ⟨?_, ?_, ?_, ?_, ?_⟩ <;> (first | omega | rfl | assumption | decide | exact Or.inl rfl | exact Or.inr rfl | (simp only; omega))), hh_16.rt (M1 := [(r0, 15, 32, .int pa)]) [3] rfl ht⟩, by rw [ht]; try exact hh_16.1.1, fun q h9 hq => by rw [ht]; try exact hh_16.1.2.1 q h9 hq⟩) hh_16.1.2.2 dX13_readName_57
        · skip
          have c_15' : r_14.toInt = 0 := jb_ne_n (rfl) ((by decide)) c_15
          first | (have hr_14pq := hr_14p.resolve_left (by omega); clear hr_14p) | (have hr_14pq := hr_14p.resolve_right (by omega); clear hr_14p) | try clear hr_14p
          refine lv_aload_n hx hb dX13_readName_42 rfl (lv_at hl 0 rfl) ?_
          refine va_ldcS hx hb hown rstr192 dX13_readName_43 ?_
          refine va_calli (A0 := jA base) (H0 := s.heap) (va_runV (As := [.ref str192]) (rest := []) ⟨hx, hb, hml, hown, hts⟩ (uX13_isWord l dC dI ca base B hB hAp hB15 hB155 hB156 hB157 hB166 hB167 G0 H_13 r0 str192 5 pk pa) (cwV 1 hts (jgV (jWr_62 _ (List.mem_of_getElem? (i := 1) rfl)) (jWr_62 _ (List.mem_of_getElem? (i := 2) rfl)) (jWr_62 _ (List.mem_of_getElem? (i := 3) rfl)) (jWr_12 _ (List.mem_of_getElem? (i := 12) rfl)) (jWr_62 _ (List.mem_of_getElem? (i := 4) rfl))) rfl rfl rfl (by decide +kernel) ⟨by rw [← hR]; exact Nat.le_of_ble_eq_true rfl, by rw [← hR]; exact Nat.le_of_ble_eq_true rfl⟩) ⟨fun a U g mk q => by obtain ⟨q0, q1, q2, qK, q10, q11, q12, q13⟩ := q; exact ⟨q0, q1, q2, jG.calling g mk a qK, (q10.moved (Vm.Alike.refl U.vm)), q11, q12, q13⟩, hh_13.recv (C := RX13) (T := TX13) (N := 50) hB15 rfl (by decide) hg_r0 hK, fun U hU hW => ⟨rfl, hU, hh_13.2.1, hG.step hW hU hh_13.1, (hstr192.moved hW.alike).kept hh_13.1.2.1, hg_r0, (hh_13.2.2.1.sub (L1 := [(r0, 15, 30, .int pk), (r0, 15, 32, .int pa)]) [1, 2] rfl), by first | omega | (refine ⟨?_, ?_, ?_, ?_, ?_⟩ <;> (first | omega | rfl | assumption | decide | exact Or.inl rfl | exact Or.inr rfl | (simp only; omega)))⟩⟩ rfl rfl hl.1 rfl (lv_room (Nat.le_of_ble_eq_true rfl)) dX13_readName_45 ⟨Nat.zero_le _, Nat.zero_le _⟩) hh_13.1 (fun q _ h => h) (fun q h => h) (fun r_18 u_17 t_17 H_17 locs_17 ht_17 hvm_17 hr_18 hb_17 hz_17 hk_17 hS_17 => ?_)
          rw [ht_17] at hb_17
          obtain ⟨hb_171, hb_172, hb_173, hb_174, hb_175⟩ := hb_17
          have hh_17 : jSt (dC, dI) B base G0 G0 EX13_readName s.heap 0 0 [(r0, 15, 28, .ref kind_5), (r0, 15, 30, .int pk), (r0, 15, 32, .int pa)] [] [] H_17 locs_17 := ((hh_13.call hb_171 hb_172 hb_173 hb_174 hS_17 rfl (L1 := [(r0, 15, 28, .ref kind_5), (r0, 15, 30, .int pk), (r0, 15, 32, .int pa)]) [0, 1, 2] rfl rfl (M1 := []) [] rfl rfl (I1 := []) [] rfl rfl).more hb_175)
          clear hh_13 ht_17 hvm_17 hz_17 hk_17 hS_17 hb_171 hb_172 hb_173 hb_174 hb_175
          obtain ⟨hr_18b, hr_18p⟩ := hr_18
          have hr_18' := jb_01 hr_18b
          refine lv_if_eq (tgt := 58) hx hb dX13_readName_48 (by decide) (fun c_19 => ?_) (fun c_19 => ?_)
          · skip
            have c_19' : r_18.toInt = 0 := jb_eq (rfl) ((by decide)) c_19
            first | (have hr_18pq := hr_18p.resolve_left (by omega); clear hr_18p) | (have hr_18pq := hr_18p.resolve_right (by omega); clear hr_18p) | try clear hr_18p
            refine lv_aload_n hx hb dX13_readName_58 rfl (lv_at hl 0 rfl) ?_
            refine lv_dup hx hb dX13_readName_59 rfl ?_
            refine j7_read hx hb hown hK (C := RX13) (T := TX13) (N := 50) rfl hly_15_32 hlk_171 (hh_17.at 2 rfl) dX13_readName_60 ?_
            refine lv_iconst (v := 1) hx hb dX13_readName_63 (by decide) ?_
            refine lv_iadd hx hb dX13_readName_64 ?_
            refine lv_topi (fun z_20 ez_20 => ?_)
            have hz_20 : z_20.toInt = pa.toInt + 1 := by rw [ez_20]; exact jb_iadd2 (rfl) ((by decide)) (by omega)
            refine j7_put hx hb hown hK hh_17 hB hAp hB15 (C := RX13) (T := TX13) (N := 50) rfl (by decide) hg_r0 (i := 32) (by decide) hly_15_32 rfl hlk_171 rfl (ty := .int) (v := .int z_20) (by decide +kernel) rfl rfl (⟨_, rfl, by omega, by omega⟩) rfl (L1 := [(r0, 15, 28, .ref kind_5), (r0, 15, 30, .int pk)]) [0, 1] rfl rfl rfl dX13_readName_65 (fun H_21 locs_21 hh_21 => ?_)
            clear hh_17
            refine lv_aload_n hx hb dX13_readName_68 rfl (lv_at hl 0 rfl) ?_
            obtain ⟨v_22, hv_22, hh_23⟩ := hh_21.pin (C := RX13) (T := TX13) (N := 50) hB15 rfl (by decide) hg_r0 (i := 29) (by decide) rfl
            clear hh_21
            obtain ⟨what_24, rfl, hg_what_24⟩ := hv_22
            refine j7_read hx hb hown hK (C := RX13) (T := TX13) (N := 50) rfl hly_15_29 hlk_74 (hh_23.at 0 rfl) dX13_readName_69 ?_
            refine lv_aload_n hx hb dX13_readName_72 rfl (lv_at hl 0 rfl) ?_
            refine j7_read hx hb hown hK (C := RX13) (T := TX13) (N := 50) rfl hly_15_32 hlk_171 (hh_23.at 1 rfl) dX13_readName_73 ?_
            refine lv_iconst (v := 1) hx hb dX13_readName_76 (by decide) ?_
            refine lv_isub hx hb dX13_readName_77 ?_
            refine lv_topi (fun z_25 ez_25 => ?_)
            have hz_25 : z_25.toInt = z_20.toInt - 1 := by rw [ez_25]; exact jb_isub2 (rfl) ((by decide)) (by omega)
            refine j7_iald hx hb hK hh_23 hB157 1 rfl (by decide) hg_what_24 (x := z_25.toInt) (rfl) (by omega) dX13_readName_78 (fun z_26 (hz_26 : 0 ≤ z_26.toInt ∧ z_26.toInt ≤ 1599) => ?_)
            rw [hQ]
            exact W.iret (v := z_26) hx hb hr (fun t ht hW => ⟨⟨z_26, z_20, rfl, by first | omega | (refine ⟨?_, ?_, ?_, ?_, ?_⟩ <;> (first | omega | rfl | assumption | decide | exact Or.inl rfl | exact Or.inr rfl | (simp only; omega))), hh_23.rt (M1 := [(r0, 15, 32, .int z_20)]) [1] rfl ht⟩, by rw [ht]; try exact hh_23.1.1, fun q h9 hq => by rw [ht]; try exact hh_23.1.2.1 q h9 hq⟩) hh_23.1.2.2 dX13_readName_79
          · skip
            have c_19' : r_18.toInt ≠ 0 := jb_eq_n (rfl) ((by decide)) c_19
            first | (have hr_18pq := hr_18p.resolve_left (by omega); clear hr_18p) | (have hr_18pq := hr_18p.resolve_right (by omega); clear hr_18p) | try clear hr_18p
            refine lv_aload_n hx hb dX13_readName_51 rfl (lv_at hl 0 rfl) ?_
            refine lv_iconst (v := 1) hx hb dX13_readName_52 (by decide) ?_
            refine j7_put hx hb hown hK hh_17 hB hAp hB15 (C := RX13) (T := TX13) (N := 50) rfl (by decide) hg_r0 (i := 33) (by decide) hly_15_33 rfl hlk_181 rfl (ty := .boolean) (v := .int 1) (by decide +kernel) (jb_nz (Or.inr rfl)) (jb_fz (Or.inr rfl)) (⟨_, rfl, (Or.inr rfl)⟩) rfl (L1 := [(r0, 15, 28, .ref kind_5), (r0, 15, 30, .int pk), (r0, 15, 32, .int pa)]) [0, 1, 2] rfl rfl rfl dX13_readName_53 (fun H_27 locs_27 hh_27 => ?_)
            clear hh_17
            refine lv_iconst (v := 0) hx hb dX13_readName_56 (by decide) ?_
            rw [hQ]
            exact W.iret (v := 0) hx hb hr (fun t ht hW => ⟨⟨0, pa, rfl, by first | omega | (refine ⟨?_, ?_, ?_, ?_, ?_⟩ <;> (first | omega | rfl | assumption | decide | exact Or.inl rfl | exact Or.inr rfl | (simp only; omega))), hh_27.rt (M1 := [(r0, 15, 32, .int pa)]) [3] rfl ht⟩, by rw [ht]; try exact hh_27.1.1, fun q h9 hq => by rw [ht]; try exact hh_27.1.2.1 q h9 hq⟩) hh_27.1.2.2 dX13_readName_57
set_option maxHeartbeats 4000000 in
set_option maxRecDepth 20000 in
theorem uX13_readNumber (l : Launch) (dC : Nat → ClassId) (dI : Nat → Nat → Nat) (ca : Nat → ClassId) (base : Nat) (B : jF) (hB : jBok B) (hAp : jAp (dC, dI)) (hB15 : ∀ n G a H, B 15 n G a H ↔ jOb (dC, dI) 15 50 (F15 n G) a H) (hB157 : ∀ n G a H, B 157 n G a H ↔ jAr (dC, dI) (ca 1) (fun j z => 0 ≤ z.toInt ∧ z.toInt ≤ 1599) n a H) (hB167 : ∀ n G a H, B 167 n G a H ↔ jAr (dC, dI) (ca 1) (fun j z => True) n a H) (G0 : jT) (H0 : Heap) (r0 : Nat) (pk : Int32) (pa : Int32) : Met l yX13_readNumber (jw yX13_readNumber cX13_readNumber 1 (some .int)) ({ frames := 0, cells := 0, slots := 0, locals := 0 }) (va_Pc [.ref r0] (fun U => U.heap = H0 ∧ jX B base G0 [] H0 ∧ jG dC dI ca base U ∧ G0 r0 = some (15, 0) ∧ jP (dC, dI) G0 H0 [(r0, 15, 30, .int pk), (r0, 15, 32, .int pa)] ∧ 0 ≤ pk.toInt ∧ pk.toInt ≤ 1500 ∧ 0 ≤ pa.toInt ∧ pa.toInt ≤ 1600)) (va_Qi (S := Int32) (fun r u => (0 ≤ r.toInt ∧ r.toInt ≤ 3 ∧ pa.toInt ≤ u.toInt ∧ u.toInt ≤ pa.toInt + 1 ∧ (u.toInt = pa.toInt ∨ u.toInt ≤ pk.toInt))) (fun u t => jRt (dC, dI) B base G0 EX13_readNumber H0 [(r0, 15, 32, .int u)] t.heap) (jA base)) 0 0 (jA base) := by
  refine Met.ofW (cc := cX13_readNumber) (maxL := 1) (ret := (some .int)) (by decide) rfl ?_
  intro p e s m args below meth c s₁ Bd hml hv
  obtain ⟨rfl, hH0, hX, hG, hg_r0, hP0, hp0, hp1, hp2, hp3⟩ := hv
  have hK := hG.1
  have hx := Bd.exec
  have hb := Bd.bytes
  have hr := Bd.returns
  have hts := atoms_spec (ws := (jw yX13_readNumber cX13_readNumber 1 (some .int))) Bd.pre
  have htw : ∀ w ∈ jWl, w.before _ s = true := fun w h => hts w (List.mem_cons_of_mem _ h)
  have hown : s.vm.findClass RX13 = some m.cls := findClass_of_methodNamed Bd.named
  have hlocks := Bd.notSynchronized
  obtain ⟨Q, hQ⟩ : ∃ Q, Q = MQ below (va_Qi (S := Int32) (fun r u => (0 ≤ r.toInt ∧ r.toInt ≤ 3 ∧ pa.toInt ≤ u.toInt ∧ u.toInt ≤ pa.toInt + 1 ∧ (u.toInt = pa.toInt ∨ u.toInt ≤ pk.toInt))) (fun u t => jRt (dC, dI) B base G0 EX13_readNumber H0 [(r0, 15, 32, .int u)] t.heap) (jA base)) ([.ref r0] : List Value).toArray s 0 0 (jA base) := ⟨_, rfl⟩
  rw [← hQ]
  have hl := lv_entry ([.ref r0]) (n := 1) (Nat.le_of_ble_eq_true rfl)
  rw [lg_entry_eq]
  generalize (lg_sl ([.ref r0]) ++ List.replicate (1 - (lg_sl ([.ref r0])).length) Slot.unset).toArray = ls at hl ⊢
  have hl : lv_has ls 1 [(0, .ref r0)] := hl
  generalize hR : (headSpec (jw yX13_readNumber cX13_readNumber 1 (some .int)) ({ frames := 0, cells := 0, slots := 0, locals := 0 })).room = R
  subst hH0
  have hh : jSt (dC, dI) B base G0 G0 EX13_readNumber s.heap 0 0 [(r0, 15, 30, .int pk), (r0, 15, 32, .int pa)] [] [] s.heap [] := jSt.start hX hP0 jMc.nil jIs.nil
  clear hX hP0
  have hk0 : (0 : Int32).toInt = 0 := by decide
  have hk1 : (1 : Int32).toInt = 1 := by decide
  have hk2 : (2 : Int32).toInt = 2 := by decide
  have hk3 : (3 : Int32).toInt = 3 := by decide
  have hly_15_28 := htw (u_lay RX13 TX13 28) (jWc_wsX130 _ (u_in_lay (by decide)))
  have hly_15_29 := htw (u_lay RX13 TX13 29) (jWc_wsX130 _ (u_in_lay (by decide)))
  have hly_15_30 := htw (u_lay RX13 TX13 30) (jWc_wsX130 _ (u_in_lay (by decide)))
  have hly_15_32 := htw (u_lay RX13 TX13 32) (jWc_wsX130 _ (u_in_lay (by decide)))
  have hly_15_33 := htw (u_lay RX13 TX13 33) (jWc_wsX130 _ (u_in_lay (by decide)))
  have hlk_171 := (htw (.fieldLink RX13 171 "ProofServerModel$Kernel" "at" "I") (jWr_61 _ (List.mem_of_getElem? (i := 11) rfl)))
  have hlk_140 := (htw (.fieldLink RX13 140 "ProofServerModel$Kernel" "tokens" "I") (jWr_60 _ (List.mem_of_getElem? (i := 9) rfl)))
  have hlk_71 := (htw (.fieldLink RX13 71 "ProofServerModel$Kernel" "kind" "[I") (jWr_15 _ (List.mem_of_getElem? (i := 4) rfl)))
  have hlk_74 := (htw (.fieldLink RX13 74 "ProofServerModel$Kernel" "what" "[I") (jWr_15 _ (List.mem_of_getElem? (i := 5) rfl)))
  have hlk_181 := (htw (.fieldLink RX13 181 "ProofServerModel$Kernel" "wrong" "Z") (jWr_60 _ (List.mem_of_getElem? (i := 2) rfl)))
  obtain ⟨v_1, hv_1, hh_2⟩ := hh.pin (C := RX13) (T := TX13) (N := 50) hB15 rfl (by decide) hg_r0 (i := 29) (by decide) rfl
  obtain ⟨what_3, rfl, hg_what_3⟩ := hv_1
  obtain ⟨f_what_4, hh_4⟩ := hh_2.cpin hB157 (by decide) (by decide) hg_what_3
  clear hh_2
  refine lv_aload_n hx hb dX13_readNumber_0 rfl (lv_at hl 0 rfl) ?_
  refine j7_read hx hb hown hK (C := RX13) (T := TX13) (N := 50) rfl hly_15_32 hlk_171 (hh_4.at 2 rfl) dX13_readNumber_1 ?_
  refine lv_aload_n hx hb dX13_readNumber_4 rfl (lv_at hl 0 rfl) ?_
  refine j7_read hx hb hown hK (C := RX13) (T := TX13) (N := 50) rfl hly_15_30 hlk_140 (hh_4.at 1 rfl) dX13_readNumber_5 ?_
  refine lv_icmp_ge (tgt := 37) hx hb dX13_readNumber_8 (by decide) (fun c_5 => ?_) (fun c_5 => ?_)
  · skip
    have c_5' : pa.toInt ≥ pk.toInt := jb_ge (rfl) (rfl) c_5
    refine lv_aload_n hx hb dX13_readNumber_37 rfl (lv_at hl 0 rfl) ?_
    refine lv_iconst (v := 1) hx hb dX13_readNumber_38 (by decide) ?_
    refine j7_put hx hb hown hK hh_4 hB hAp hB15 (C := RX13) (T := TX13) (N := 50) rfl (by decide) hg_r0 (i := 33) (by decide) hly_15_33 rfl hlk_181 rfl (ty := .boolean) (v := .int 1) (by decide +kernel) (jb_nz (Or.inr rfl)) (jb_fz (Or.inr rfl)) (⟨_, rfl, (Or.inr rfl)⟩) rfl (L1 := [(r0, 15, 29, .ref what_3), (r0, 15, 30, .int pk), (r0, 15, 32, .int pa)]) [0, 1, 2] rfl rfl rfl dX13_readNumber_39 (fun H_6 locs_6 hh_6 => ?_)
    clear hh_4
    refine lv_iconst (v := 0) hx hb dX13_readNumber_42 (by decide) ?_
    rw [hQ]
    exact W.iret (v := 0) hx hb hr (fun t ht hW => ⟨⟨0, pa, rfl, by first | omega | (refine ⟨?_, ?_, ?_, ?_, ?_⟩ <;> (first | omega | rfl | assumption | decide | exact Or.inl rfl | exact Or.inr rfl | (simp only; omega))), hh_6.rt (M1 := [(r0, 15, 32, .int pa)]) [3] rfl ht⟩, by rw [ht]; try exact hh_6.1.1, fun q h9 hq => by rw [ht]; try exact hh_6.1.2.1 q h9 hq⟩) hh_6.1.2.2 dX13_readNumber_43
  · skip
    have c_5' : pa.toInt < pk.toInt := jb_ge_n (rfl) (rfl) c_5
    refine lv_aload_n hx hb dX13_readNumber_11 rfl (lv_at hl 0 rfl) ?_
    obtain ⟨v_7, hv_7, hh_8⟩ := hh_4.pin (C := RX13) (T := TX13) (N := 50) hB15 rfl (by decide) hg_r0 (i := 28) (by decide) rfl
    clear hh_4
    obtain ⟨kind_9, rfl, hg_kind_9⟩ := hv_7
    refine j7_read hx hb hown hK (C := RX13) (T := TX13) (N := 50) rfl hly_15_28 hlk_71 (hh_8.at 0 rfl) dX13_readNumber_12 ?_
    refine lv_aload_n hx hb dX13_readNumber_15 rfl (lv_at hl 0 rfl) ?_
    refine j7_read hx hb hown hK (C := RX13) (T := TX13) (N := 50) rfl hly_15_32 hlk_171 (hh_8.at 3 rfl) dX13_readNumber_16 ?_
    refine j7_iald hx hb hK hh_8 hB167 1 rfl (by decide) hg_kind_9 (x := pa.toInt) (rfl) (by omega) dX13_readNumber_19 (fun z_10 (hz_10 : True) => ?_)
    refine lv_iconst (v := 2) hx hb dX13_readNumber_20 (by decide) ?_
    refine lv_icmp_ne (tgt := 37) hx hb dX13_readNumber_21 (by decide) (fun c_11 => ?_) (fun c_11 => ?_)
    · skip
      have c_11' : z_10.toInt ≠ 2 := jb_ne (rfl) ((by decide)) c_11
      refine lv_aload_n hx hb dX13_readNumber_37 rfl (lv_at hl 0 rfl) ?_
      refine lv_iconst (v := 1) hx hb dX13_readNumber_38 (by decide) ?_
      refine j7_put hx hb hown hK hh_8 hB hAp hB15 (C := RX13) (T := TX13) (N := 50) rfl (by decide) hg_r0 (i := 33) (by decide) hly_15_33 rfl hlk_181 rfl (ty := .boolean) (v := .int 1) (by decide +kernel) (jb_nz (Or.inr rfl)) (jb_fz (Or.inr rfl)) (⟨_, rfl, (Or.inr rfl)⟩) rfl (L1 := [(r0, 15, 28, .ref kind_9), (r0, 15, 29, .ref what_3), (r0, 15, 30, .int pk), (r0, 15, 32, .int pa)]) [0, 1, 2, 3] rfl rfl rfl dX13_readNumber_39 (fun H_12 locs_12 hh_12 => ?_)
      clear hh_8
      refine lv_iconst (v := 0) hx hb dX13_readNumber_42 (by decide) ?_
      rw [hQ]
      exact W.iret (v := 0) hx hb hr (fun t ht hW => ⟨⟨0, pa, rfl, by first | omega | (refine ⟨?_, ?_, ?_, ?_, ?_⟩ <;> (first | omega | rfl | assumption | decide | exact Or.inl rfl | exact Or.inr rfl | (simp only; omega))), hh_12.rt (M1 := [(r0, 15, 32, .int pa)]) [4] rfl ht⟩, by rw [ht]; try exact hh_12.1.1, fun q h9 hq => by rw [ht]; try exact hh_12.1.2.1 q h9 hq⟩) hh_12.1.2.2 dX13_readNumber_43
    · skip
      have c_11' : z_10.toInt = 2 := jb_ne_n (rfl) ((by decide)) c_11
      refine lv_aload_n hx hb dX13_readNumber_24 rfl (lv_at hl 0 rfl) ?_
      refine j7_read hx hb hown hK (C := RX13) (T := TX13) (N := 50) rfl hly_15_29 hlk_74 (hh_8.at 1 rfl) dX13_readNumber_25 ?_
      refine lv_aload_n hx hb dX13_readNumber_28 rfl (lv_at hl 0 rfl) ?_
      refine j7_read hx hb hown hK (C := RX13) (T := TX13) (N := 50) rfl hly_15_32 hlk_171 (hh_8.at 3 rfl) dX13_readNumber_29 ?_
      refine j7_ialdM hx hb hK hh_8 hB157 1 rfl (by decide) hg_what_3 (x := pa.toInt) (rfl) (by omega) (j := 0) rfl dX13_readNumber_32 (fun z_13 ez_13 (hz_13 : 0 ≤ z_13.toInt ∧ z_13.toInt ≤ 1599) => ?_)
      have hqz_13 : z_13.toInt = (f_what_4 (pa.toInt).toNat).toInt := by rw [ez_13]
      refine lv_iconst (v := 3) hx hb dX13_readNumber_33 (by decide) ?_
      refine lv_icmp_le (tgt := 44) hx hb dX13_readNumber_34 (by decide) (fun c_14 => ?_) (fun c_14 => ?_)
      · skip
        have c_14' : z_13.toInt ≤ 3 := jb_le (rfl) ((by decide)) c_14
        refine lv_aload_n hx hb dX13_readNumber_44 rfl (lv_at hl 0 rfl) ?_
        refine lv_dup hx hb dX13_readNumber_45 rfl ?_
        refine j7_read hx hb hown hK (C := RX13) (T := TX13) (N := 50) rfl hly_15_32 hlk_171 (hh_8.at 3 rfl) dX13_readNumber_46 ?_
        refine lv_iconst (v := 1) hx hb dX13_readNumber_49 (by decide) ?_
        refine lv_iadd hx hb dX13_readNumber_50 ?_
        refine lv_topi (fun z_15 ez_15 => ?_)
        have hz_15 : z_15.toInt = pa.toInt + 1 := by rw [ez_15]; exact jb_iadd2 (rfl) ((by decide)) (by omega)
        refine j7_put hx hb hown hK hh_8 hB hAp hB15 (C := RX13) (T := TX13) (N := 50) rfl (by decide) hg_r0 (i := 32) (by decide) hly_15_32 rfl hlk_171 rfl (ty := .int) (v := .int z_15) (by decide +kernel) rfl rfl (⟨_, rfl, by omega, by omega⟩) rfl (L1 := [(r0, 15, 28, .ref kind_9), (r0, 15, 29, .ref what_3), (r0, 15, 30, .int pk)]) [0, 1, 2] rfl rfl rfl dX13_readNumber_51 (fun H_16 locs_16 hh_16 => ?_)
        clear hh_8
        refine lv_aload_n hx hb dX13_readNumber_54 rfl (lv_at hl 0 rfl) ?_
        refine j7_read hx hb hown hK (C := RX13) (T := TX13) (N := 50) rfl hly_15_29 hlk_74 (hh_16.at 2 rfl) dX13_readNumber_55 ?_
        refine lv_aload_n hx hb dX13_readNumber_58 rfl (lv_at hl 0 rfl) ?_
        refine j7_read hx hb hown hK (C := RX13) (T := TX13) (N := 50) rfl hly_15_32 hlk_171 (hh_16.at 0 rfl) dX13_readNumber_59 ?_
        refine lv_iconst (v := 1) hx hb dX13_readNumber_62 (by decide) ?_
        refine lv_isub hx hb dX13_readNumber_63 ?_
        refine lv_topi (fun z_17 ez_17 => ?_)
        have hz_17 : z_17.toInt = z_15.toInt - 1 := by rw [ez_17]; exact jb_isub2 (rfl) ((by decide)) (by omega)
        refine j7_ialdM hx hb hK hh_16 hB157 1 rfl (by decide) hg_what_3 (x := z_17.toInt) (rfl) (by omega) (j := 0) rfl dX13_readNumber_64 (fun z_18 ez_18 (hz_18 : 0 ≤ z_18.toInt ∧ z_18.toInt ≤ 1599) => ?_)
        have hqz_18 : z_18.toInt = (f_what_4 (((pa.toInt + 1) - 1)).toNat).toInt := by rw [ez_18, show z_17.toInt = ((pa.toInt + 1) - 1) by omega]
        first | have hqz_18_19 : z_18.toInt = (f_what_4 (pa.toInt).toNat).toInt := by rw [ez_18, show z_17.toInt = pa.toInt by omega] | skip
        rw [hQ]
        exact W.iret (v := z_18) hx hb hr (fun t ht hW => ⟨⟨z_18, z_15, rfl, by first | omega | (refine ⟨?_, ?_, ?_, ?_, ?_⟩ <;> (first | omega | rfl | assumption | decide | exact Or.inl rfl | exact Or.inr rfl | (simp only; omega))), hh_16.rt (M1 := [(r0, 15, 32, .int z_15)]) [0] rfl ht⟩, by rw [ht]; try exact hh_16.1.1, fun q h9 hq => by rw [ht]; try exact hh_16.1.2.1 q h9 hq⟩) hh_16.1.2.2 dX13_readNumber_65
      · skip
        have c_14' : z_13.toInt > 3 := jb_le_n (rfl) ((by decide)) c_14
        refine lv_aload_n hx hb dX13_readNumber_37 rfl (lv_at hl 0 rfl) ?_
        refine lv_iconst (v := 1) hx hb dX13_readNumber_38 (by decide) ?_
        refine j7_put hx hb hown hK hh_8 hB hAp hB15 (C := RX13) (T := TX13) (N := 50) rfl (by decide) hg_r0 (i := 33) (by decide) hly_15_33 rfl hlk_181 rfl (ty := .boolean) (v := .int 1) (by decide +kernel) (jb_nz (Or.inr rfl)) (jb_fz (Or.inr rfl)) (⟨_, rfl, (Or.inr rfl)⟩) rfl (L1 := [(r0, 15, 28, .ref kind_9), (r0, 15, 29, .ref what_3), (r0, 15, 30, .int pk), (r0, 15, 32, .int pa)]) [0, 1, 2, 3] rfl rfl rfl dX13_readNumber_39 (fun H_20 locs_20 hh_20 => ?_)
        clear hh_8
        refine lv_iconst (v := 0) hx hb dX13_readNumber_42 (by decide) ?_
        rw [hQ]
        exact W.iret (v := 0) hx hb hr (fun t ht hW => ⟨⟨0, pa, rfl, by first | omega | (refine ⟨?_, ?_, ?_, ?_, ?_⟩ <;> (first | omega | rfl | assumption | decide | exact Or.inl rfl | exact Or.inr rfl | (simp only; omega))), hh_20.rt (M1 := [(r0, 15, 32, .int pa)]) [4] rfl ht⟩, by rw [ht]; try exact hh_20.1.1, fun q h9 hq => by rw [ht]; try exact hh_20.1.2.1 q h9 hq⟩) hh_20.1.2.2 dX13_readNumber_43
set_option maxHeartbeats 4000000 in
set_option maxRecDepth 20000 in
theorem uX13_fails (l : Launch) (dC : Nat → ClassId) (dI : Nat → Nat → Nat) (ca : Nat → ClassId) (base : Nat) (B : jF) (hB : jBok B) (hAp : jAp (dC, dI)) (hB15 : ∀ n G a H, B 15 n G a H ↔ jOb (dC, dI) 15 50 (F15 n G) a H) (G0 : jT) (H0 : Heap) (r0 : Nat) (a1 : Int32) : Met l yX13_fails (jw yX13_fails cX13_fails 2 none) ({ frames := 0, cells := 0, slots := 0, locals := 0 }) (va_Pc [.ref r0, .int a1] (fun U => U.heap = H0 ∧ jX B base G0 [] H0 ∧ jG dC dI ca base U ∧ G0 r0 = some (15, 0) ∧ jP (dC, dI) G0 H0 [] ∧ 1 ≤ a1.toInt ∧ a1.toInt ≤ 9)) (va_Qv (S := Int32) (fun u => 1 ≤ u.toInt ∧ u.toInt ≤ 9) (fun u t => jRt (dC, dI) B base G0 EX13_fails H0 [(r0, 15, 34, .int u)] t.heap) (jA base)) 0 0 (jA base) := by
  refine Met.ofW (cc := cX13_fails) (maxL := 2) (ret := none) (by decide) rfl ?_
  intro p e s m args below meth c s₁ Bd hml hv
  obtain ⟨rfl, hH0, hX, hG, hg_r0, hP0, hp0, hp1⟩ := hv
  have hK := hG.1
  have hx := Bd.exec
  have hb := Bd.bytes
  have hr := Bd.returns
  have hts := atoms_spec (ws := (jw yX13_fails cX13_fails 2 none)) Bd.pre
  have htw : ∀ w ∈ jWl, w.before _ s = true := fun w h => hts w (List.mem_cons_of_mem _ h)
  have hown : s.vm.findClass RX13 = some m.cls := findClass_of_methodNamed Bd.named
  have hlocks := Bd.notSynchronized
  obtain ⟨Q, hQ⟩ : ∃ Q, Q = MQ below (va_Qv (S := Int32) (fun u => 1 ≤ u.toInt ∧ u.toInt ≤ 9) (fun u t => jRt (dC, dI) B base G0 EX13_fails H0 [(r0, 15, 34, .int u)] t.heap) (jA base)) ([.ref r0, .int a1] : List Value).toArray s 0 0 (jA base) := ⟨_, rfl⟩
  rw [← hQ]
  have hl := lv_entry ([.ref r0, .int a1]) (n := 2) (Nat.le_of_ble_eq_true rfl)
  rw [lg_entry_eq]
  generalize (lg_sl ([.ref r0, .int a1]) ++ List.replicate (2 - (lg_sl ([.ref r0, .int a1])).length) Slot.unset).toArray = ls at hl ⊢
  have hl : lv_has ls 2 [(0, .ref r0), (1, .int a1)] := hl
  generalize hR : (headSpec (jw yX13_fails cX13_fails 2 none) ({ frames := 0, cells := 0, slots := 0, locals := 0 })).room = R
  subst hH0
  have hh : jSt (dC, dI) B base G0 G0 EX13_fails s.heap 0 0 [] [] [] s.heap [] := jSt.start hX hP0 jMc.nil jIs.nil
  clear hX hP0
  have hk0 : (0 : Int32).toInt = 0 := by decide
  have hk1 : (1 : Int32).toInt = 1 := by decide
  have hly_15_34 := htw (u_lay RX13 TX13 34) (jWc_wsX130 _ (u_in_lay (by decide)))
  have hlk_221 := (htw (.fieldLink RX13 221 "ProofServerModel$Kernel" "fault" "I") (jWr_60 _ (List.mem_of_getElem? (i := 3) rfl)))
  have hrg_a1 := jb_rng a1
  refine lv_aload_n hx hb dX13_fails_0 rfl (lv_at hl 0 rfl) ?_
  obtain ⟨v_1, hv_1, hh_2⟩ := hh.pin (C := RX13) (T := TX13) (N := 50) hB15 rfl (by decide) hg_r0 (i := 34) (by decide) rfl
  clear hh
  obtain ⟨fault_3, rfl, hlofault_3, hhifault_3⟩ := hv_1
  refine j7_read hx hb hown hK (C := RX13) (T := TX13) (N := 50) rfl hly_15_34 hlk_221 (hh_2.at 0 rfl) dX13_fails_1 ?_
  refine lv_if_ne (tgt := 12) hx hb dX13_fails_4 (by decide) (fun c_4 => ?_) (fun c_4 => ?_)
  · skip
    have c_4' : fault_3.toInt ≠ 0 := jb_ne (rfl) ((by decide)) c_4
    rw [hQ]
    exact W.vret hx hb hr (fun t ht hW => ⟨⟨fault_3, rfl, by first | omega | (refine ⟨?_, ?_⟩ <;> (first | omega | rfl | assumption | decide | exact Or.inl rfl | exact Or.inr rfl | (simp only; omega))), hh_2.rt (M1 := [(r0, 15, 34, .int fault_3)]) [0] rfl ht⟩, by rw [ht]; try exact hh_2.1.1, fun q h9 hq => by rw [ht]; try exact hh_2.1.2.1 q h9 hq⟩) hh_2.1.2.2 dX13_fails_12
  · skip
    have c_4' : fault_3.toInt = 0 := jb_ne_n (rfl) ((by decide)) c_4
    refine lv_aload_n hx hb dX13_fails_7 rfl (lv_at hl 0 rfl) ?_
    refine lv_iload_n hx hb dX13_fails_8 rfl (lv_at hl 1 rfl) ?_
    refine j7_put hx hb hown hK hh_2 hB hAp hB15 (C := RX13) (T := TX13) (N := 50) rfl (by decide) hg_r0 (i := 34) (by decide) hly_15_34 rfl hlk_221 rfl (ty := .int) (v := .int a1) (by decide +kernel) rfl rfl (⟨_, rfl, by omega, by omega⟩) rfl (L1 := []) [] rfl rfl rfl dX13_fails_9 (fun H_5 locs_5 hh_5 => ?_)
    clear hh_2
    rw [hQ]
    exact W.vret hx hb hr (fun t ht hW => ⟨⟨a1, rfl, by first | omega | (refine ⟨?_, ?_⟩ <;> (first | omega | rfl | assumption | decide | exact Or.inl rfl | exact Or.inr rfl | (simp only; omega))), hh_5.rt (M1 := [(r0, 15, 34, .int a1)]) [0] rfl ht⟩, by rw [ht]; try exact hh_5.1.1, fun q h9 hq => by rw [ht]; try exact hh_5.1.2.1 q h9 hq⟩) hh_5.1.2.2 dX13_fails_12
set_option maxHeartbeats 4000000 in
set_option maxRecDepth 20000 in
theorem uX13_symbolOf (l : Launch) (dC : Nat → ClassId) (dI : Nat → Nat → Nat) (ca : Nat → ClassId) (base : Nat) (B : jF) (hB : jBok B) (hAp : jAp (dC, dI)) (hB15 : ∀ n G a H, B 15 n G a H ↔ jOb (dC, dI) 15 50 (F15 n G) a H) (hB163 : ∀ n G a H, B 163 n G a H ↔ jAr (dC, dI) (ca 1) (fun j z => 0 ≤ z.toInt ∧ z.toInt ≤ 1599) n a H) (G0 : jT) (H0 : Heap) (r0 : Nat) (a1 : Int32) : Met l yX13_symbolOf (jw yX13_symbolOf cX13_symbolOf 3 (some .int)) ({ frames := 0, cells := 0, slots := 0, locals := 0 }) (va_Pc [.ref r0, .int a1] (fun U => U.heap = H0 ∧ jX B base G0 [] H0 ∧ jG dC dI ca base U ∧ G0 r0 = some (15, 0) ∧ jP (dC, dI) G0 H0 [] ∧ True)) (va_Qi (S := Unit) (fun r u => (-1 ≤ r.toInt ∧ r.toInt ≤ 15)) (fun u t => jRt (dC, dI) B base G0 EX13_symbolOf H0 [] t.heap) (jA base)) 0 0 (jA base) := by
  refine Met.ofW (cc := cX13_symbolOf) (maxL := 3) (ret := (some .int)) (by decide) rfl ?_
  intro p e s m args below meth c s₁ Bd hml hv
  obtain ⟨rfl, hH0, hX, hG, hg_r0, hP0, hp0⟩ := hv
  have hK := hG.1
  have hx := Bd.exec
  have hb := Bd.bytes
  have hr := Bd.returns
  have hts := atoms_spec (ws := (jw yX13_symbolOf cX13_symbolOf 3 (some .int))) Bd.pre
  have htw : ∀ w ∈ jWl, w.before _ s = true := fun w h => hts w (List.mem_cons_of_mem _ h)
  have hown : s.vm.findClass RX13 = some m.cls := findClass_of_methodNamed Bd.named
  have hlocks := Bd.notSynchronized
  obtain ⟨Q, hQ⟩ : ∃ Q, Q = MQ below (va_Qi (S := Unit) (fun r u => (-1 ≤ r.toInt ∧ r.toInt ≤ 15)) (fun u t => jRt (dC, dI) B base G0 EX13_symbolOf H0 [] t.heap) (jA base)) ([.ref r0, .int a1] : List Value).toArray s 0 0 (jA base) := ⟨_, rfl⟩
  rw [← hQ]
  have hl := lv_entry ([.ref r0, .int a1]) (n := 3) (Nat.le_of_ble_eq_true rfl)
  rw [lg_entry_eq]
  generalize (lg_sl ([.ref r0, .int a1]) ++ List.replicate (3 - (lg_sl ([.ref r0, .int a1])).length) Slot.unset).toArray = ls at hl ⊢
  have hl : lv_has ls 3 [(0, .ref r0), (1, .int a1)] := hl
  generalize hR : (headSpec (jw yX13_symbolOf cX13_symbolOf 3 (some .int)) ({ frames := 0, cells := 0, slots := 0, locals := 0 })).room = R
  subst hH0
  have hh : jSt (dC, dI) B base G0 G0 EX13_symbolOf s.heap 0 0 [] [] [] s.heap [] := jSt.start hX hP0 jMc.nil jIs.nil
  clear hX hP0
  have hkm1 : ((-1) : Int32).toInt = (-1) := by decide
  have hk0 : (0 : Int32).toInt = 0 := by decide
  have hk1 : (1 : Int32).toInt = 1 := by decide
  have hly_15_11 := htw (u_lay RX13 TX13 11) (jWc_wsX130 _ (u_in_lay (by decide)))
  have hly_15_12 := htw (u_lay RX13 TX13 12) (jWc_wsX130 _ (u_in_lay (by decide)))
  have hlk_109 := (htw (.fieldLink RX13 109 "ProofServerModel$Kernel" "symbols" "I") (jWr_59 _ (List.mem_of_getElem? (i := 17) rfl)))
  have hlk_37 := (htw (.fieldLink RX13 37 "ProofServerModel$Kernel" "symbol" "[I") (jWr_14 _ (List.mem_of_getElem? (i := 17) rfl)))
  have hrg_a1 := jb_rng a1
  refine lv_iconst (v := 0) hx hb dX13_symbolOf_0 (by decide) ?_
  refine lv_istore_n (lv' := [(2, .int 0), (0, .ref r0), (1, .int a1)]) hx hb dX13_symbolOf_1 rfl hl (by decide) rfl (fun ls hl => ?_)
  obtain ⟨v_1, hv_1, hh_2⟩ := hh.pin (C := RX13) (T := TX13) (N := 50) hB15 rfl (by decide) hg_r0 (i := 11) (by decide) rfl
  obtain ⟨symbols_3, rfl, hlosymbols_3, hhisymbols_3⟩ := hv_1
  have L2 : ∀ (N : Nat) (v2_4 : Int32) (H_4 : Heap) (locs_4 : List Loc), jSt (dC, dI) B base G0 G0 EX13_symbolOf s.heap 0 0 [(r0, 15, 11, .int symbols_3)] [] [] H_4 locs_4 → (0 ≤ v2_4.toInt ∧ v2_4.toInt ≤ symbols_3.toInt) → (symbols_3.toInt - v2_4.toInt : Int) < N → ∀ ls : Array Slot, lv_has ls 3 [(0, .ref r0), (1, .int a1), (2, .int v2_4)] → W p l e R s m ([.ref r0, .int a1] : List Value).toArray below meth c H_4 locs_4 0 0 Q (F0 m 2 ls []) := by
    intro N
    induction N with
    | zero => intro v2_4 H_4 locs_4 hh_4  hi_4 hm; exact absurd hm (by omega)
    | succ N L2 =>
      intro v2_4 H_4 locs_4 hh_4  hi_4 hm_4 ls hl
      obtain ⟨hi_4_0, hi_4_1⟩ := hi_4
      refine lv_iload_n hx hb dX13_symbolOf_2 rfl (lv_at hl 2 rfl) ?_
      refine lv_aload_n hx hb dX13_symbolOf_3 rfl (lv_at hl 0 rfl) ?_
      refine j7_read hx hb hown hK (C := RX13) (T := TX13) (N := 50) rfl hly_15_11 hlk_109 (hh_4.at 0 rfl) dX13_symbolOf_4 ?_
      refine lv_icmp_ge (tgt := 28) hx hb dX13_symbolOf_7 (by decide) (fun c_5 => ?_) (fun c_5 => ?_)
      · skip
        have c_5' : v2_4.toInt ≥ symbols_3.toInt := jb_ge (rfl) (rfl) c_5
        refine lv_iconst (v := (-1)) hx hb dX13_symbolOf_28 (by decide) ?_
        rw [hQ]
        exact W.iret (v := (-1)) hx hb hr (fun t ht hW => ⟨⟨(-1), (), rfl, by first | omega | (refine ⟨?_, ?_⟩ <;> (first | omega | rfl | assumption | decide | exact Or.inl rfl | exact Or.inr rfl | (simp only; omega))), hh_4.rt (M1 := []) [] rfl ht⟩, by rw [ht]; try exact hh_4.1.1, fun q h9 hq => by rw [ht]; try exact hh_4.1.2.1 q h9 hq⟩) hh_4.1.2.2 dX13_symbolOf_29
      · skip
        have c_5' : v2_4.toInt < symbols_3.toInt := jb_ge_n (rfl) (rfl) c_5
        refine lv_aload_n hx hb dX13_symbolOf_10 rfl (lv_at hl 0 rfl) ?_
        obtain ⟨v_6, hv_6, hh_7⟩ := hh_4.pin (C := RX13) (T := TX13) (N := 50) hB15 rfl (by decide) hg_r0 (i := 12) (by decide) rfl
        clear hh_4
        obtain ⟨symbol_8, rfl, hg_symbol_8⟩ := hv_6
        refine j7_read hx hb hown hK (C := RX13) (T := TX13) (N := 50) rfl hly_15_12 hlk_37 (hh_7.at 0 rfl) dX13_symbolOf_11 ?_
        refine lv_iload_n hx hb dX13_symbolOf_14 rfl (lv_at hl 2 rfl) ?_
        refine j7_iald hx hb hK hh_7 hB163 1 rfl (by decide) hg_symbol_8 (x := v2_4.toInt) (rfl) (by omega) dX13_symbolOf_15 (fun z_9 (hz_9 : 0 ≤ z_9.toInt ∧ z_9.toInt ≤ 1599) => ?_)
        refine lv_iload_n hx hb dX13_symbolOf_16 rfl (lv_at hl 1 rfl) ?_
        refine lv_icmp_ne (tgt := 22) hx hb dX13_symbolOf_17 (by decide) (fun c_10 => ?_) (fun c_10 => ?_)
        · skip
          have c_10' : z_9.toInt ≠ a1.toInt := jb_ne (rfl) (rfl) c_10
          obtain ⟨z_11, ez_11⟩ : ∃ y : Int32, y = v2_4 + 1 := ⟨_, rfl⟩
          refine lv_iinc (v := z_11) (lv' := [(2, .int z_11), (0, .ref r0), (1, .int a1)]) hx hb dX13_symbolOf_22 hl (k := 2) rfl (by rw [ez_11]; rfl) (by decide) rfl (fun ls hl => ?_)
          have hz_11 : z_11.toInt = v2_4.toInt + 1 := by rw [ez_11]; exact jb_iadd2 (rfl) (by decide) (by omega)
          refine lv_goto (tgt := 2) hx hb dX13_symbolOf_25 (by decide) ?_
          exact L2 z_11 _ _ (hh_7.sub (L1 := [(r0, 15, 11, .int symbols_3)]) [1] rfl (M1 := []) [] rfl (I1 := []) [] rfl) (by first | omega | (refine ⟨?_, ?_⟩ <;> (first | omega | rfl | assumption | decide | exact Or.inl rfl | exact Or.inr rfl | (simp only; omega)))) (by omega) _ (lv_sub hl [1, 2, 0] rfl)
        · skip
          have c_10' : z_9.toInt = a1.toInt := jb_ne_n (rfl) (rfl) c_10
          refine lv_iload_n hx hb dX13_symbolOf_20 rfl (lv_at hl 2 rfl) ?_
          rw [hQ]
          exact W.iret (v := v2_4) hx hb hr (fun t ht hW => ⟨⟨v2_4, (), rfl, by first | omega | (refine ⟨?_, ?_⟩ <;> (first | omega | rfl | assumption | decide | exact Or.inl rfl | exact Or.inr rfl | (simp only; omega))), hh_7.rt (M1 := []) [] rfl ht⟩, by rw [ht]; try exact hh_7.1.1, fun q h9 hq => by rw [ht]; try exact hh_7.1.2.1 q h9 hq⟩) hh_7.1.2.2 dX13_symbolOf_21
  exact L2 (symbols_3.toInt - (0 : Int32).toInt : Int).toNat.succ 0 _ _ hh_2 (by first | omega | (refine ⟨?_, ?_⟩ <;> (first | omega | rfl | assumption | decide | exact Or.inl rfl | exact Or.inr rfl | (simp only; omega)))) (by omega) _ (lv_sub hl [1, 2, 0] rfl)
set_option maxHeartbeats 4000000 in
set_option maxRecDepth 20000 in
theorem uX13_factOf (l : Launch) (dC : Nat → ClassId) (dI : Nat → Nat → Nat) (ca : Nat → ClassId) (base : Nat) (B : jF) (hB : jBok B) (hAp : jAp (dC, dI)) (hB15 : ∀ n G a H, B 15 n G a H ↔ jOb (dC, dI) 15 50 (F15 n G) a H) (hB163 : ∀ n G a H, B 163 n G a H ↔ jAr (dC, dI) (ca 1) (fun j z => 0 ≤ z.toInt ∧ z.toInt ≤ 1599) n a H) (G0 : jT) (H0 : Heap) (r0 : Nat) (a1 : Int32) : Met l yX13_factOf (jw yX13_factOf cX13_factOf 3 (some .int)) ({ frames := 0, cells := 0, slots := 0, locals := 0 }) (va_Pc [.ref r0, .int a1] (fun U => U.heap = H0 ∧ jX B base G0 [] H0 ∧ jG dC dI ca base U ∧ G0 r0 = some (15, 0) ∧ jP (dC, dI) G0 H0 [] ∧ True)) (va_Qi (S := Unit) (fun r u => (-1 ≤ r.toInt ∧ r.toInt ≤ 15)) (fun u t => jRt (dC, dI) B base G0 EX13_factOf H0 [] t.heap) (jA base)) 0 0 (jA base) := by
  refine Met.ofW (cc := cX13_factOf) (maxL := 3) (ret := (some .int)) (by decide) rfl ?_
  intro p e s m args below meth c s₁ Bd hml hv
  obtain ⟨rfl, hH0, hX, hG, hg_r0, hP0, hp0⟩ := hv
  have hK := hG.1
  have hx := Bd.exec
  have hb := Bd.bytes
  have hr := Bd.returns
  have hts := atoms_spec (ws := (jw yX13_factOf cX13_factOf 3 (some .int))) Bd.pre
  have htw : ∀ w ∈ jWl, w.before _ s = true := fun w h => hts w (List.mem_cons_of_mem _ h)
  have hown : s.vm.findClass RX13 = some m.cls := findClass_of_methodNamed Bd.named
  have hlocks := Bd.notSynchronized
  obtain ⟨Q, hQ⟩ : ∃ Q, Q = MQ below (va_Qi (S := Unit) (fun r u => (-1 ≤ r.toInt ∧ r.toInt ≤ 15)) (fun u t => jRt (dC, dI) B base G0 EX13_factOf H0 [] t.heap) (jA base)) ([.ref r0, .int a1] : List Value).toArray s 0 0 (jA base) := ⟨_, rfl⟩
  rw [← hQ]
  have hl := lv_entry ([.ref r0, .int a1]) (n := 3) (Nat.le_of_ble_eq_true rfl)
  rw [lg_entry_eq]
  generalize (lg_sl ([.ref r0, .int a1]) ++ List.replicate (3 - (lg_sl ([.ref r0, .int a1])).length) Slot.unset).toArray = ls at hl ⊢
  have hl : lv_has ls 3 [(0, .ref r0), (1, .int a1)] := hl
  generalize hR : (headSpec (jw yX13_factOf cX13_factOf 3 (some .int)) ({ frames := 0, cells := 0, slots := 0, locals := 0 })).room = R
  subst hH0
  have hh : jSt (dC, dI) B base G0 G0 EX13_factOf s.heap 0 0 [] [] [] s.heap [] := jSt.start hX hP0 jMc.nil jIs.nil
  clear hX hP0
  have hkm1 : ((-1) : Int32).toInt = (-1) := by decide
  have hk0 : (0 : Int32).toInt = 0 := by decide
  have hk1 : (1 : Int32).toInt = 1 := by decide
  have hly_15_15 := htw (u_lay RX13 TX13 15) (jWc_wsX130 _ (u_in_lay (by decide)))
  have hly_15_16 := htw (u_lay RX13 TX13 16) (jWc_wsX130 _ (u_in_lay (by decide)))
  have hlk_112 := (htw (.fieldLink RX13 112 "ProofServerModel$Kernel" "facts" "I") (jWr_59 _ (List.mem_of_getElem? (i := 18) rfl)))
  have hlk_47 := (htw (.fieldLink RX13 47 "ProofServerModel$Kernel" "factName" "[I") (jWr_14 _ (List.mem_of_getElem? (i := 20) rfl)))
  have hrg_a1 := jb_rng a1
  refine lv_iconst (v := 0) hx hb dX13_factOf_0 (by decide) ?_
  refine lv_istore_n (lv' := [(2, .int 0), (0, .ref r0), (1, .int a1)]) hx hb dX13_factOf_1 rfl hl (by decide) rfl (fun ls hl => ?_)
  obtain ⟨v_1, hv_1, hh_2⟩ := hh.pin (C := RX13) (T := TX13) (N := 50) hB15 rfl (by decide) hg_r0 (i := 15) (by decide) rfl
  obtain ⟨facts_3, rfl, hlofacts_3, hhifacts_3⟩ := hv_1
  have L2 : ∀ (N : Nat) (v2_4 : Int32) (H_4 : Heap) (locs_4 : List Loc), jSt (dC, dI) B base G0 G0 EX13_factOf s.heap 0 0 [(r0, 15, 15, .int facts_3)] [] [] H_4 locs_4 → (0 ≤ v2_4.toInt ∧ v2_4.toInt ≤ facts_3.toInt) → (facts_3.toInt - v2_4.toInt : Int) < N → ∀ ls : Array Slot, lv_has ls 3 [(0, .ref r0), (1, .int a1), (2, .int v2_4)] → W p l e R s m ([.ref r0, .int a1] : List Value).toArray below meth c H_4 locs_4 0 0 Q (F0 m 2 ls []) := by
    intro N
    induction N with
    | zero => intro v2_4 H_4 locs_4 hh_4  hi_4 hm; exact absurd hm (by omega)
    | succ N L2 =>
      intro v2_4 H_4 locs_4 hh_4  hi_4 hm_4 ls hl
      obtain ⟨hi_4_0, hi_4_1⟩ := hi_4
      refine lv_iload_n hx hb dX13_factOf_2 rfl (lv_at hl 2 rfl) ?_
      refine lv_aload_n hx hb dX13_factOf_3 rfl (lv_at hl 0 rfl) ?_
      refine j7_read hx hb hown hK (C := RX13) (T := TX13) (N := 50) rfl hly_15_15 hlk_112 (hh_4.at 0 rfl) dX13_factOf_4 ?_
      refine lv_icmp_ge (tgt := 28) hx hb dX13_factOf_7 (by decide) (fun c_5 => ?_) (fun c_5 => ?_)
      · skip
        have c_5' : v2_4.toInt ≥ facts_3.toInt := jb_ge (rfl) (rfl) c_5
        refine lv_iconst (v := (-1)) hx hb dX13_factOf_28 (by decide) ?_
        rw [hQ]
        exact W.iret (v := (-1)) hx hb hr (fun t ht hW => ⟨⟨(-1), (), rfl, by first | omega | (refine ⟨?_, ?_⟩ <;> (first | omega | rfl | assumption | decide | exact Or.inl rfl | exact Or.inr rfl | (simp only; omega))), hh_4.rt (M1 := []) [] rfl ht⟩, by rw [ht]; try exact hh_4.1.1, fun q h9 hq => by rw [ht]; try exact hh_4.1.2.1 q h9 hq⟩) hh_4.1.2.2 dX13_factOf_29
      · skip
        have c_5' : v2_4.toInt < facts_3.toInt := jb_ge_n (rfl) (rfl) c_5
        refine lv_aload_n hx hb dX13_factOf_10 rfl (lv_at hl 0 rfl) ?_
        obtain ⟨v_6, hv_6, hh_7⟩ := hh_4.pin (C := RX13) (T := TX13) (N := 50) hB15 rfl (by decide) hg_r0 (i := 16) (by decide) rfl
        clear hh_4
        obtain ⟨factName_8, rfl, hg_factName_8⟩ := hv_6
        refine j7_read hx hb hown hK (C := RX13) (T := TX13) (N := 50) rfl hly_15_16 hlk_47 (hh_7.at 0 rfl) dX13_factOf_11 ?_
        refine lv_iload_n hx hb dX13_factOf_14 rfl (lv_at hl 2 rfl) ?_
        refine j7_iald hx hb hK hh_7 hB163 1 rfl (by decide) hg_factName_8 (x := v2_4.toInt) (rfl) (by omega) dX13_factOf_15 (fun z_9 (hz_9 : 0 ≤ z_9.toInt ∧ z_9.toInt ≤ 1599) => ?_)
        refine lv_iload_n hx hb dX13_factOf_16 rfl (lv_at hl 1 rfl) ?_
        refine lv_icmp_ne (tgt := 22) hx hb dX13_factOf_17 (by decide) (fun c_10 => ?_) (fun c_10 => ?_)
        · skip
          have c_10' : z_9.toInt ≠ a1.toInt := jb_ne (rfl) (rfl) c_10
          obtain ⟨z_11, ez_11⟩ : ∃ y : Int32, y = v2_4 + 1 := ⟨_, rfl⟩
          refine lv_iinc (v := z_11) (lv' := [(2, .int z_11), (0, .ref r0), (1, .int a1)]) hx hb dX13_factOf_22 hl (k := 2) rfl (by rw [ez_11]; rfl) (by decide) rfl (fun ls hl => ?_)
          have hz_11 : z_11.toInt = v2_4.toInt + 1 := by rw [ez_11]; exact jb_iadd2 (rfl) (by decide) (by omega)
          refine lv_goto (tgt := 2) hx hb dX13_factOf_25 (by decide) ?_
          exact L2 z_11 _ _ (hh_7.sub (L1 := [(r0, 15, 15, .int facts_3)]) [1] rfl (M1 := []) [] rfl (I1 := []) [] rfl) (by first | omega | (refine ⟨?_, ?_⟩ <;> (first | omega | rfl | assumption | decide | exact Or.inl rfl | exact Or.inr rfl | (simp only; omega)))) (by omega) _ (lv_sub hl [1, 2, 0] rfl)
        · skip
          have c_10' : z_9.toInt = a1.toInt := jb_ne_n (rfl) (rfl) c_10
          refine lv_iload_n hx hb dX13_factOf_20 rfl (lv_at hl 2 rfl) ?_
          rw [hQ]
          exact W.iret (v := v2_4) hx hb hr (fun t ht hW => ⟨⟨v2_4, (), rfl, by first | omega | (refine ⟨?_, ?_⟩ <;> (first | omega | rfl | assumption | decide | exact Or.inl rfl | exact Or.inr rfl | (simp only; omega))), hh_7.rt (M1 := []) [] rfl ht⟩, by rw [ht]; try exact hh_7.1.1, fun q h9 hq => by rw [ht]; try exact hh_7.1.2.1 q h9 hq⟩) hh_7.1.2.2 dX13_factOf_21
  exact L2 (facts_3.toInt - (0 : Int32).toInt : Int).toNat.succ 0 _ _ hh_2 (by first | omega | (refine ⟨?_, ?_⟩ <;> (first | omega | rfl | assumption | decide | exact Or.inl rfl | exact Or.inr rfl | (simp only; omega)))) (by omega) _ (lv_sub hl [1, 2, 0] rfl)
set_option maxHeartbeats 4000000 in
set_option maxRecDepth 20000 in
theorem uX13_isVariable (l : Launch) (dC : Nat → ClassId) (dI : Nat → Nat → Nat) (ca : Nat → ClassId) (base : Nat) (B : jF) (hB : jBok B) (hAp : jAp (dC, dI)) (hB15 : ∀ n G a H, B 15 n G a H ↔ jOb (dC, dI) 15 50 (F15 n G) a H) (hB158 : ∀ n G a H, B 158 n G a H ↔ jAr (dC, dI) (ca 1) (fun j z => 0 ≤ z.toInt ∧ z.toInt ≤ 6) n a H) (hB163 : ∀ n G a H, B 163 n G a H ↔ jAr (dC, dI) (ca 1) (fun j z => 0 ≤ z.toInt ∧ z.toInt ≤ 1599) n a H) (G0 : jT) (H0 : Heap) (r0 : Nat) (a1 : Int32) : Met l yX13_isVariable (jw yX13_isVariable cX13_isVariable 3 (some .boolean)) ({ frames := 0, cells := 0, slots := 0, locals := 0 }) (va_Pc [.ref r0, .int a1] (fun U => U.heap = H0 ∧ jX B base G0 [] H0 ∧ jG dC dI ca base U ∧ G0 r0 = some (15, 0) ∧ jP (dC, dI) G0 H0 [] ∧ True)) (va_Qi (S := Unit) (fun r u => (r = 0 ∨ r = 1) ∧ (True)) (fun u t => jRt (dC, dI) B base G0 EX13_isVariable H0 [] t.heap) (jA base)) 0 0 (jA base) := by
  refine Met.ofW (cc := cX13_isVariable) (maxL := 3) (ret := (some .boolean)) (by decide) rfl ?_
  intro p e s m args below meth c s₁ Bd hml hv
  obtain ⟨rfl, hH0, hX, hG, hg_r0, hP0, hp0⟩ := hv
  have hK := hG.1
  have hx := Bd.exec
  have hb := Bd.bytes
  have hr := Bd.returns
  have hts := atoms_spec (ws := (jw yX13_isVariable cX13_isVariable 3 (some .boolean))) Bd.pre
  have htw : ∀ w ∈ jWl, w.before _ s = true := fun w h => hts w (List.mem_cons_of_mem _ h)
  have hown : s.vm.findClass RX13 = some m.cls := findClass_of_methodNamed Bd.named
  have hlocks := Bd.notSynchronized
  obtain ⟨Q, hQ⟩ : ∃ Q, Q = MQ below (va_Qi (S := Unit) (fun r u => (r = 0 ∨ r = 1) ∧ (True)) (fun u t => jRt (dC, dI) B base G0 EX13_isVariable H0 [] t.heap) (jA base)) ([.ref r0, .int a1] : List Value).toArray s 0 0 (jA base) := ⟨_, rfl⟩
  rw [← hQ]
  have hl := lv_entry ([.ref r0, .int a1]) (n := 3) (Nat.le_of_ble_eq_true rfl)
  rw [lg_entry_eq]
  generalize (lg_sl ([.ref r0, .int a1]) ++ List.replicate (3 - (lg_sl ([.ref r0, .int a1])).length) Slot.unset).toArray = ls at hl ⊢
  have hl : lv_has ls 3 [(0, .ref r0), (1, .int a1)] := hl
  generalize hR : (headSpec (jw yX13_isVariable cX13_isVariable 3 (some .boolean)) ({ frames := 0, cells := 0, slots := 0, locals := 0 })).room = R
  subst hH0
  have hh : jSt (dC, dI) B base G0 G0 EX13_isVariable s.heap 0 0 [] [] [] s.heap [] := jSt.start hX hP0 jMc.nil jIs.nil
  clear hX hP0
  have hk0 : (0 : Int32).toInt = 0 := by decide
  have hk1 : (1 : Int32).toInt = 1 := by decide
  have hly_15_21 := htw (u_lay RX13 TX13 21) (jWc_wsX130 _ (u_in_lay (by decide)))
  have hly_15_23 := htw (u_lay RX13 TX13 23) (jWc_wsX130 _ (u_in_lay (by decide)))
  have hly_15_24 := htw (u_lay RX13 TX13 24) (jWc_wsX130 _ (u_in_lay (by decide)))
  have hlk_119 := (htw (.fieldLink RX13 119 "ProofServerModel$Kernel" "goals" "I") (jWr_59 _ (List.mem_of_getElem? (i := 20) rfl)))
  have hlk_56 := (htw (.fieldLink RX13 56 "ProofServerModel$Kernel" "vars" "[I") (jWr_14 _ (List.mem_of_getElem? (i := 23) rfl)))
  have hlk_59 := (htw (.fieldLink RX13 59 "ProofServerModel$Kernel" "varName" "[I") (jWr_15 _ (List.mem_of_getElem? (i := 0) rfl)))
  have hrg_a1 := jb_rng a1
  refine lv_iconst (v := 0) hx hb dX13_isVariable_0 (by decide) ?_
  refine lv_istore_n (lv' := [(2, .int 0), (0, .ref r0), (1, .int a1)]) hx hb dX13_isVariable_1 rfl hl (by decide) rfl (fun ls hl => ?_)
  have L2 : ∀ (N : Nat) (v2_1 : Int32) (H_1 : Heap) (locs_1 : List Loc), jSt (dC, dI) B base G0 G0 EX13_isVariable s.heap 0 0 [] [] [] H_1 locs_1 → (0 ≤ v2_1.toInt ∧ v2_1.toInt ≤ 6) → (6 - v2_1.toInt : Int) < N → ∀ ls : Array Slot, lv_has ls 3 [(0, .ref r0), (1, .int a1), (2, .int v2_1)] → W p l e R s m ([.ref r0, .int a1] : List Value).toArray below meth c H_1 locs_1 0 0 Q (F0 m 2 ls []) := by
    intro N
    induction N with
    | zero => intro v2_1 H_1 locs_1 hh_1  hi_1 hm; exact absurd hm (by omega)
    | succ N L2 =>
      intro v2_1 H_1 locs_1 hh_1  hi_1 hm_1 ls hl
      obtain ⟨hi_1_0, hi_1_1⟩ := hi_1
      refine lv_aload_n hx hb dX13_isVariable_2 rfl (lv_at hl 0 rfl) ?_
      obtain ⟨v_2, hv_2, hh_3⟩ := hh_1.pin (C := RX13) (T := TX13) (N := 50) hB15 rfl (by decide) hg_r0 (i := 21) (by decide) rfl
      clear hh_1
      obtain ⟨goals_4, rfl, hlogoals_4, hhigoals_4⟩ := hv_2
      refine j7_read hx hb hown hK (C := RX13) (T := TX13) (N := 50) rfl hly_15_21 hlk_119 (hh_3.at 0 rfl) dX13_isVariable_3 ?_
      refine lv_if_le (tgt := 37) hx hb dX13_isVariable_6 (by decide) (fun c_5 => ?_) (fun c_5 => ?_)
      · skip
        have c_5' : goals_4.toInt ≤ 0 := jb_le (rfl) ((by decide)) c_5
        refine lv_iconst (v := 0) hx hb dX13_isVariable_37 (by decide) ?_
        rw [hQ]
        exact W.zret (v := 0) hx hb hr (jb_nz (Or.inl rfl)) (fun t ht hW => ⟨⟨0, (), rfl, ⟨(Or.inl rfl), trivial⟩, hh_3.rt (M1 := []) [] rfl ht⟩, by rw [ht]; try exact hh_3.1.1, fun q h9 hq => by rw [ht]; try exact hh_3.1.2.1 q h9 hq⟩) hh_3.1.2.2 dX13_isVariable_38
      · skip
        have c_5' : goals_4.toInt > 0 := jb_le_n (rfl) ((by decide)) c_5
        refine lv_iload_n hx hb dX13_isVariable_9 rfl (lv_at hl 2 rfl) ?_
        refine lv_aload_n hx hb dX13_isVariable_10 rfl (lv_at hl 0 rfl) ?_
        obtain ⟨v_6, hv_6, hh_7⟩ := hh_3.pin (C := RX13) (T := TX13) (N := 50) hB15 rfl (by decide) hg_r0 (i := 23) (by decide) rfl
        clear hh_3
        obtain ⟨vars_8, rfl, hg_vars_8⟩ := hv_6
        refine j7_read hx hb hown hK (C := RX13) (T := TX13) (N := 50) rfl hly_15_23 hlk_56 (hh_7.at 0 rfl) dX13_isVariable_11 ?_
        refine lv_iconst (v := 0) hx hb dX13_isVariable_14 (by decide) ?_
        refine j7_iald hx hb hK hh_7 hB158 1 rfl (by decide) hg_vars_8 (x := 0) ((by decide)) (by omega) dX13_isVariable_15 (fun z_9 (hz_9 : 0 ≤ z_9.toInt ∧ z_9.toInt ≤ 6) => ?_)
        refine lv_icmp_ge (tgt := 37) hx hb dX13_isVariable_16 (by decide) (fun c_10 => ?_) (fun c_10 => ?_)
        · skip
          have c_10' : v2_1.toInt ≥ z_9.toInt := jb_ge (rfl) (rfl) c_10
          refine lv_iconst (v := 0) hx hb dX13_isVariable_37 (by decide) ?_
          rw [hQ]
          exact W.zret (v := 0) hx hb hr (jb_nz (Or.inl rfl)) (fun t ht hW => ⟨⟨0, (), rfl, ⟨(Or.inl rfl), trivial⟩, hh_7.rt (M1 := []) [] rfl ht⟩, by rw [ht]; try exact hh_7.1.1, fun q h9 hq => by rw [ht]; try exact hh_7.1.2.1 q h9 hq⟩) hh_7.1.2.2 dX13_isVariable_38
        · skip
          have c_10' : v2_1.toInt < z_9.toInt := jb_ge_n (rfl) (rfl) c_10
          refine lv_aload_n hx hb dX13_isVariable_19 rfl (lv_at hl 0 rfl) ?_
          obtain ⟨v_11, hv_11, hh_12⟩ := hh_7.pin (C := RX13) (T := TX13) (N := 50) hB15 rfl (by decide) hg_r0 (i := 24) (by decide) rfl
          clear hh_7
          obtain ⟨varName_13, rfl, hg_varName_13⟩ := hv_11
          refine j7_read hx hb hown hK (C := RX13) (T := TX13) (N := 50) rfl hly_15_24 hlk_59 (hh_12.at 0 rfl) dX13_isVariable_20 ?_
          refine lv_iload_n hx hb dX13_isVariable_23 rfl (lv_at hl 2 rfl) ?_
          refine j7_iald hx hb hK hh_12 hB163 1 rfl (by decide) hg_varName_13 (x := v2_1.toInt) (rfl) (by omega) dX13_isVariable_24 (fun z_14 (hz_14 : 0 ≤ z_14.toInt ∧ z_14.toInt ≤ 1599) => ?_)
          refine lv_iload_n hx hb dX13_isVariable_25 rfl (lv_at hl 1 rfl) ?_
          refine lv_icmp_ne (tgt := 31) hx hb dX13_isVariable_26 (by decide) (fun c_15 => ?_) (fun c_15 => ?_)
          · skip
            have c_15' : z_14.toInt ≠ a1.toInt := jb_ne (rfl) (rfl) c_15
            obtain ⟨z_16, ez_16⟩ : ∃ y : Int32, y = v2_1 + 1 := ⟨_, rfl⟩
            refine lv_iinc (v := z_16) (lv' := [(2, .int z_16), (0, .ref r0), (1, .int a1)]) hx hb dX13_isVariable_31 hl (k := 2) rfl (by rw [ez_16]; rfl) (by decide) rfl (fun ls hl => ?_)
            have hz_16 : z_16.toInt = v2_1.toInt + 1 := by rw [ez_16]; exact jb_iadd2 (rfl) (by decide) (by omega)
            refine lv_goto (tgt := 2) hx hb dX13_isVariable_34 (by decide) ?_
            exact L2 z_16 _ _ (hh_12.sub (L1 := []) [] rfl (M1 := []) [] rfl (I1 := []) [] rfl) (by first | omega | (refine ⟨?_, ?_⟩ <;> (first | omega | rfl | assumption | decide | exact Or.inl rfl | exact Or.inr rfl | (simp only; omega)))) (by omega) _ (lv_sub hl [1, 2, 0] rfl)
          · skip
            have c_15' : z_14.toInt = a1.toInt := jb_ne_n (rfl) (rfl) c_15
            refine lv_iconst (v := 1) hx hb dX13_isVariable_29 (by decide) ?_
            rw [hQ]
            exact W.zret (v := 1) hx hb hr (jb_nz (Or.inr rfl)) (fun t ht hW => ⟨⟨1, (), rfl, ⟨(Or.inr rfl), trivial⟩, hh_12.rt (M1 := []) [] rfl ht⟩, by rw [ht]; try exact hh_12.1.1, fun q h9 hq => by rw [ht]; try exact hh_12.1.2.1 q h9 hq⟩) hh_12.1.2.2 dX13_isVariable_30
  exact L2 (6 - (0 : Int32).toInt : Int).toNat.succ 0 _ _ hh (by first | omega | (refine ⟨?_, ?_⟩ <;> (first | omega | rfl | assumption | decide | exact Or.inl rfl | exact Or.inr rfl | (simp only; omega)))) (by omega) _ (lv_sub hl [1, 2, 0] rfl)
set_option maxHeartbeats 4000000 in
set_option maxRecDepth 20000 in
theorem uX13_hypOf (l : Launch) (dC : Nat → ClassId) (dI : Nat → Nat → Nat) (ca : Nat → ClassId) (base : Nat) (B : jF) (hB : jBok B) (hAp : jAp (dC, dI)) (hB15 : ∀ n G a H, B 15 n G a H ↔ jOb (dC, dI) 15 50 (F15 n G) a H) (hB159 : ∀ n G a H, B 159 n G a H ↔ jAr (dC, dI) (ca 1) (fun j z => 0 ≤ z.toInt ∧ z.toInt ≤ 8) n a H) (hB163 : ∀ n G a H, B 163 n G a H ↔ jAr (dC, dI) (ca 1) (fun j z => 0 ≤ z.toInt ∧ z.toInt ≤ 1599) n a H) (G0 : jT) (H0 : Heap) (r0 : Nat) (a1 : Int32) : Met l yX13_hypOf (jw yX13_hypOf cX13_hypOf 3 (some .int)) ({ frames := 0, cells := 0, slots := 0, locals := 0 }) (va_Pc [.ref r0, .int a1] (fun U => U.heap = H0 ∧ jX B base G0 [] H0 ∧ jG dC dI ca base U ∧ G0 r0 = some (15, 0) ∧ jP (dC, dI) G0 H0 [] ∧ True)) (va_Qi (S := Unit) (fun r u => (-1 ≤ r.toInt ∧ r.toInt ≤ 7)) (fun u t => jRt (dC, dI) B base G0 EX13_hypOf H0 [] t.heap) (jA base)) 0 0 (jA base) := by
  refine Met.ofW (cc := cX13_hypOf) (maxL := 3) (ret := (some .int)) (by decide) rfl ?_
  intro p e s m args below meth c s₁ Bd hml hv
  obtain ⟨rfl, hH0, hX, hG, hg_r0, hP0, hp0⟩ := hv
  have hK := hG.1
  have hx := Bd.exec
  have hb := Bd.bytes
  have hr := Bd.returns
  have hts := atoms_spec (ws := (jw yX13_hypOf cX13_hypOf 3 (some .int))) Bd.pre
  have htw : ∀ w ∈ jWl, w.before _ s = true := fun w h => hts w (List.mem_cons_of_mem _ h)
  have hown : s.vm.findClass RX13 = some m.cls := findClass_of_methodNamed Bd.named
  have hlocks := Bd.notSynchronized
  obtain ⟨Q, hQ⟩ : ∃ Q, Q = MQ below (va_Qi (S := Unit) (fun r u => (-1 ≤ r.toInt ∧ r.toInt ≤ 7)) (fun u t => jRt (dC, dI) B base G0 EX13_hypOf H0 [] t.heap) (jA base)) ([.ref r0, .int a1] : List Value).toArray s 0 0 (jA base) := ⟨_, rfl⟩
  rw [← hQ]
  have hl := lv_entry ([.ref r0, .int a1]) (n := 3) (Nat.le_of_ble_eq_true rfl)
  rw [lg_entry_eq]
  generalize (lg_sl ([.ref r0, .int a1]) ++ List.replicate (3 - (lg_sl ([.ref r0, .int a1])).length) Slot.unset).toArray = ls at hl ⊢
  have hl : lv_has ls 3 [(0, .ref r0), (1, .int a1)] := hl
  generalize hR : (headSpec (jw yX13_hypOf cX13_hypOf 3 (some .int)) ({ frames := 0, cells := 0, slots := 0, locals := 0 })).room = R
  subst hH0
  have hh : jSt (dC, dI) B base G0 G0 EX13_hypOf s.heap 0 0 [] [] [] s.heap [] := jSt.start hX hP0 jMc.nil jIs.nil
  clear hX hP0
  have hkm1 : ((-1) : Int32).toInt = (-1) := by decide
  have hk0 : (0 : Int32).toInt = 0 := by decide
  have hk1 : (1 : Int32).toInt = 1 := by decide
  have hly_15_21 := htw (u_lay RX13 TX13 21) (jWc_wsX130 _ (u_in_lay (by decide)))
  have hly_15_25 := htw (u_lay RX13 TX13 25) (jWc_wsX130 _ (u_in_lay (by decide)))
  have hly_15_26 := htw (u_lay RX13 TX13 26) (jWc_wsX130 _ (u_in_lay (by decide)))
  have hlk_119 := (htw (.fieldLink RX13 119 "ProofServerModel$Kernel" "goals" "I") (jWr_59 _ (List.mem_of_getElem? (i := 20) rfl)))
  have hlk_62 := (htw (.fieldLink RX13 62 "ProofServerModel$Kernel" "hyps" "[I") (jWr_15 _ (List.mem_of_getElem? (i := 1) rfl)))
  have hlk_65 := (htw (.fieldLink RX13 65 "ProofServerModel$Kernel" "hypName" "[I") (jWr_15 _ (List.mem_of_getElem? (i := 2) rfl)))
  have hrg_a1 := jb_rng a1
  refine lv_iconst (v := 0) hx hb dX13_hypOf_0 (by decide) ?_
  refine lv_istore_n (lv' := [(2, .int 0), (0, .ref r0), (1, .int a1)]) hx hb dX13_hypOf_1 rfl hl (by decide) rfl (fun ls hl => ?_)
  have L2 : ∀ (N : Nat) (v2_1 : Int32) (H_1 : Heap) (locs_1 : List Loc), jSt (dC, dI) B base G0 G0 EX13_hypOf s.heap 0 0 [] [] [] H_1 locs_1 → (0 ≤ v2_1.toInt ∧ v2_1.toInt ≤ 8) → (8 - v2_1.toInt : Int) < N → ∀ ls : Array Slot, lv_has ls 3 [(0, .ref r0), (1, .int a1), (2, .int v2_1)] → W p l e R s m ([.ref r0, .int a1] : List Value).toArray below meth c H_1 locs_1 0 0 Q (F0 m 2 ls []) := by
    intro N
    induction N with
    | zero => intro v2_1 H_1 locs_1 hh_1  hi_1 hm; exact absurd hm (by omega)
    | succ N L2 =>
      intro v2_1 H_1 locs_1 hh_1  hi_1 hm_1 ls hl
      obtain ⟨hi_1_0, hi_1_1⟩ := hi_1
      refine lv_aload_n hx hb dX13_hypOf_2 rfl (lv_at hl 0 rfl) ?_
      obtain ⟨v_2, hv_2, hh_3⟩ := hh_1.pin (C := RX13) (T := TX13) (N := 50) hB15 rfl (by decide) hg_r0 (i := 21) (by decide) rfl
      clear hh_1
      obtain ⟨goals_4, rfl, hlogoals_4, hhigoals_4⟩ := hv_2
      refine j7_read hx hb hown hK (C := RX13) (T := TX13) (N := 50) rfl hly_15_21 hlk_119 (hh_3.at 0 rfl) dX13_hypOf_3 ?_
      refine lv_if_le (tgt := 37) hx hb dX13_hypOf_6 (by decide) (fun c_5 => ?_) (fun c_5 => ?_)
      · skip
        have c_5' : goals_4.toInt ≤ 0 := jb_le (rfl) ((by decide)) c_5
        refine lv_iconst (v := (-1)) hx hb dX13_hypOf_37 (by decide) ?_
        rw [hQ]
        exact W.iret (v := (-1)) hx hb hr (fun t ht hW => ⟨⟨(-1), (), rfl, by first | omega | (refine ⟨?_, ?_⟩ <;> (first | omega | rfl | assumption | decide | exact Or.inl rfl | exact Or.inr rfl | (simp only; omega))), hh_3.rt (M1 := []) [] rfl ht⟩, by rw [ht]; try exact hh_3.1.1, fun q h9 hq => by rw [ht]; try exact hh_3.1.2.1 q h9 hq⟩) hh_3.1.2.2 dX13_hypOf_38
      · skip
        have c_5' : goals_4.toInt > 0 := jb_le_n (rfl) ((by decide)) c_5
        refine lv_iload_n hx hb dX13_hypOf_9 rfl (lv_at hl 2 rfl) ?_
        refine lv_aload_n hx hb dX13_hypOf_10 rfl (lv_at hl 0 rfl) ?_
        obtain ⟨v_6, hv_6, hh_7⟩ := hh_3.pin (C := RX13) (T := TX13) (N := 50) hB15 rfl (by decide) hg_r0 (i := 25) (by decide) rfl
        clear hh_3
        obtain ⟨hyps_8, rfl, hg_hyps_8⟩ := hv_6
        refine j7_read hx hb hown hK (C := RX13) (T := TX13) (N := 50) rfl hly_15_25 hlk_62 (hh_7.at 0 rfl) dX13_hypOf_11 ?_
        refine lv_iconst (v := 0) hx hb dX13_hypOf_14 (by decide) ?_
        refine j7_iald hx hb hK hh_7 hB159 1 rfl (by decide) hg_hyps_8 (x := 0) ((by decide)) (by omega) dX13_hypOf_15 (fun z_9 (hz_9 : 0 ≤ z_9.toInt ∧ z_9.toInt ≤ 8) => ?_)
        refine lv_icmp_ge (tgt := 37) hx hb dX13_hypOf_16 (by decide) (fun c_10 => ?_) (fun c_10 => ?_)
        · skip
          have c_10' : v2_1.toInt ≥ z_9.toInt := jb_ge (rfl) (rfl) c_10
          refine lv_iconst (v := (-1)) hx hb dX13_hypOf_37 (by decide) ?_
          rw [hQ]
          exact W.iret (v := (-1)) hx hb hr (fun t ht hW => ⟨⟨(-1), (), rfl, by first | omega | (refine ⟨?_, ?_⟩ <;> (first | omega | rfl | assumption | decide | exact Or.inl rfl | exact Or.inr rfl | (simp only; omega))), hh_7.rt (M1 := []) [] rfl ht⟩, by rw [ht]; try exact hh_7.1.1, fun q h9 hq => by rw [ht]; try exact hh_7.1.2.1 q h9 hq⟩) hh_7.1.2.2 dX13_hypOf_38
        · skip
          have c_10' : v2_1.toInt < z_9.toInt := jb_ge_n (rfl) (rfl) c_10
          refine lv_aload_n hx hb dX13_hypOf_19 rfl (lv_at hl 0 rfl) ?_
          obtain ⟨v_11, hv_11, hh_12⟩ := hh_7.pin (C := RX13) (T := TX13) (N := 50) hB15 rfl (by decide) hg_r0 (i := 26) (by decide) rfl
          clear hh_7
          obtain ⟨hypName_13, rfl, hg_hypName_13⟩ := hv_11
          refine j7_read hx hb hown hK (C := RX13) (T := TX13) (N := 50) rfl hly_15_26 hlk_65 (hh_12.at 0 rfl) dX13_hypOf_20 ?_
          refine lv_iload_n hx hb dX13_hypOf_23 rfl (lv_at hl 2 rfl) ?_
          refine j7_iald hx hb hK hh_12 hB163 1 rfl (by decide) hg_hypName_13 (x := v2_1.toInt) (rfl) (by omega) dX13_hypOf_24 (fun z_14 (hz_14 : 0 ≤ z_14.toInt ∧ z_14.toInt ≤ 1599) => ?_)
          refine lv_iload_n hx hb dX13_hypOf_25 rfl (lv_at hl 1 rfl) ?_
          refine lv_icmp_ne (tgt := 31) hx hb dX13_hypOf_26 (by decide) (fun c_15 => ?_) (fun c_15 => ?_)
          · skip
            have c_15' : z_14.toInt ≠ a1.toInt := jb_ne (rfl) (rfl) c_15
            obtain ⟨z_16, ez_16⟩ : ∃ y : Int32, y = v2_1 + 1 := ⟨_, rfl⟩
            refine lv_iinc (v := z_16) (lv' := [(2, .int z_16), (0, .ref r0), (1, .int a1)]) hx hb dX13_hypOf_31 hl (k := 2) rfl (by rw [ez_16]; rfl) (by decide) rfl (fun ls hl => ?_)
            have hz_16 : z_16.toInt = v2_1.toInt + 1 := by rw [ez_16]; exact jb_iadd2 (rfl) (by decide) (by omega)
            refine lv_goto (tgt := 2) hx hb dX13_hypOf_34 (by decide) ?_
            exact L2 z_16 _ _ (hh_12.sub (L1 := []) [] rfl (M1 := []) [] rfl (I1 := []) [] rfl) (by first | omega | (refine ⟨?_, ?_⟩ <;> (first | omega | rfl | assumption | decide | exact Or.inl rfl | exact Or.inr rfl | (simp only; omega)))) (by omega) _ (lv_sub hl [1, 2, 0] rfl)
          · skip
            have c_15' : z_14.toInt = a1.toInt := jb_ne_n (rfl) (rfl) c_15
            refine lv_iload_n hx hb dX13_hypOf_29 rfl (lv_at hl 2 rfl) ?_
            rw [hQ]
            exact W.iret (v := v2_1) hx hb hr (fun t ht hW => ⟨⟨v2_1, (), rfl, by first | omega | (refine ⟨?_, ?_⟩ <;> (first | omega | rfl | assumption | decide | exact Or.inl rfl | exact Or.inr rfl | (simp only; omega))), hh_12.rt (M1 := []) [] rfl ht⟩, by rw [ht]; try exact hh_12.1.1, fun q h9 hq => by rw [ht]; try exact hh_12.1.2.1 q h9 hq⟩) hh_12.1.2.2 dX13_hypOf_30
  exact L2 (8 - (0 : Int32).toInt : Int).toNat.succ 0 _ _ hh (by first | omega | (refine ⟨?_, ?_⟩ <;> (first | omega | rfl | assumption | decide | exact Or.inl rfl | exact Or.inr rfl | (simp only; omega)))) (by omega) _ (lv_sub hl [1, 2, 0] rfl)
set_option maxHeartbeats 4000000 in
set_option maxRecDepth 20000 in
theorem uX13_checkNew (l : Launch) (dC : Nat → ClassId) (dI : Nat → Nat → Nat) (ca : Nat → ClassId) (base : Nat) (B : jF) (hB : jBok B) (hAp : jAp (dC, dI)) (hB15 : ∀ n G a H, B 15 n G a H ↔ jOb (dC, dI) 15 50 (F15 n G) a H) (hB158 : ∀ n G a H, B 158 n G a H ↔ jAr (dC, dI) (ca 1) (fun j z => 0 ≤ z.toInt ∧ z.toInt ≤ 6) n a H) (hB159 : ∀ n G a H, B 159 n G a H ↔ jAr (dC, dI) (ca 1) (fun j z => 0 ≤ z.toInt ∧ z.toInt ≤ 8) n a H) (hB163 : ∀ n G a H, B 163 n G a H ↔ jAr (dC, dI) (ca 1) (fun j z => 0 ≤ z.toInt ∧ z.toInt ≤ 1599) n a H) (G0 : jT) (H0 : Heap) (r0 : Nat) (a1 : Int32) : Met l yX13_checkNew (jw yX13_checkNew cX13_checkNew 2 none) ({ frames := 1, cells := 0, slots := 0, locals := 22 }) (va_Pc [.ref r0, .int a1] (fun U => U.heap = H0 ∧ jX B base G0 [] H0 ∧ jG dC dI ca base U ∧ G0 r0 = some (15, 0) ∧ jP (dC, dI) G0 H0 [] ∧ True)) (va_Qv (S := Unit) (fun u => True) (fun u t => jRt (dC, dI) B base G0 EX13_checkNew H0 [] t.heap) (jA base)) 0 0 (jA base) := by
  refine Met.ofW (cc := cX13_checkNew) (maxL := 2) (ret := none) (by decide) rfl ?_
  intro p e s m args below meth c s₁ Bd hml hv
  obtain ⟨rfl, hH0, hX, hG, hg_r0, hP0, hp0⟩ := hv
  have hK := hG.1
  have hx := Bd.exec
  have hb := Bd.bytes
  have hr := Bd.returns
  have hts := atoms_spec (ws := (jw yX13_checkNew cX13_checkNew 2 none)) Bd.pre
  have htw : ∀ w ∈ jWl, w.before _ s = true := fun w h => hts w (List.mem_cons_of_mem _ h)
  have hown : s.vm.findClass RX13 = some m.cls := findClass_of_methodNamed Bd.named
  have hlocks := Bd.notSynchronized
  obtain ⟨Q, hQ⟩ : ∃ Q, Q = MQ below (va_Qv (S := Unit) (fun u => True) (fun u t => jRt (dC, dI) B base G0 EX13_checkNew H0 [] t.heap) (jA base)) ([.ref r0, .int a1] : List Value).toArray s 0 0 (jA base) := ⟨_, rfl⟩
  rw [← hQ]
  have hl := lv_entry ([.ref r0, .int a1]) (n := 2) (Nat.le_of_ble_eq_true rfl)
  rw [lg_entry_eq]
  generalize (lg_sl ([.ref r0, .int a1]) ++ List.replicate (2 - (lg_sl ([.ref r0, .int a1])).length) Slot.unset).toArray = ls at hl ⊢
  have hl : lv_has ls 2 [(0, .ref r0), (1, .int a1)] := hl
  generalize hR : (headSpec (jw yX13_checkNew cX13_checkNew 2 none) ({ frames := 1, cells := 0, slots := 0, locals := 22 })).room = R
  subst hH0
  have hh : jSt (dC, dI) B base G0 G0 EX13_checkNew s.heap 0 0 [] [] [] s.heap [] := jSt.start hX hP0 jMc.nil jIs.nil
  clear hX hP0
  have hk0 : (0 : Int32).toInt = 0 := by decide
  have hk1 : (1 : Int32).toInt = 1 := by decide
  have hk6 : (6 : Int32).toInt = 6 := by decide
  have hrg_a1 := jb_rng a1
  refine lv_aload_n hx hb dX13_checkNew_0 rfl (lv_at hl 0 rfl) ?_
  refine lv_iload_n hx hb dX13_checkNew_1 rfl (lv_at hl 1 rfl) ?_
  refine va_calli (A0 := jA base) (H0 := s.heap) (va_runV (As := [.int a1]) (rest := []) ⟨hx, hb, hml, hown, hts⟩ (uX13_symbolOf l dC dI ca base B hB hAp hB15 hB163 G0 s.heap r0 a1) (cwV 1 hts (jgV (jWr_64 _ (List.mem_of_getElem? (i := 3) rfl)) (jWr_64 _ (List.mem_of_getElem? (i := 4) rfl)) (jWr_64 _ (List.mem_of_getElem? (i := 5) rfl)) (jWr_12 _ (List.mem_of_getElem? (i := 12) rfl)) (jWr_64 _ (List.mem_of_getElem? (i := 6) rfl))) rfl rfl rfl (by decide +kernel) ⟨by rw [← hR]; exact Nat.le_of_ble_eq_true rfl, by rw [← hR]; exact Nat.le_of_ble_eq_true rfl⟩) ⟨fun a U g mk q => by obtain ⟨q0, q1, q2, qK, q10, q11, q12⟩ := q; exact ⟨q0, q1, q2, jG.calling g mk a qK, q10, q11, q12⟩, hh.recv (C := RX13) (T := TX13) (N := 50) hB15 rfl (by decide) hg_r0 hK, fun U hU hW => ⟨rfl, hU, hh.2.1, hG.step hW hU hh.1, hg_r0, jP.nil, trivial⟩⟩ rfl rfl hl.1 rfl (lv_room (Nat.le_of_ble_eq_true rfl)) dX13_checkNew_2 ⟨Nat.zero_le _, Nat.zero_le _⟩) hh.1 (fun q _ h => h) (fun q h => h) (fun r_2 u_1 t_1 H_1 locs_1 ht_1 hvm_1 hr_2 hb_1 hz_1 hk_1 hS_1 => ?_)
  rw [ht_1] at hb_1
  obtain ⟨hb_11, hb_12, hb_13, hb_14, hb_15⟩ := hb_1
  have hh_1 : jSt (dC, dI) B base G0 G0 EX13_checkNew s.heap 0 0 [] [] [] H_1 locs_1 := ((hh.call hb_11 hb_12 hb_13 hb_14 hS_1 rfl (L1 := []) [] rfl rfl (M1 := []) [] rfl rfl (I1 := []) [] rfl rfl).more hb_15)
  clear hh ht_1 hvm_1 hz_1 hk_1 hS_1 hb_11 hb_12 hb_13 hb_14 hb_15
  obtain ⟨hr_2_0, hr_2_1⟩ := hr_2
  refine lv_if_ge (tgt := 32) hx hb dX13_checkNew_5 (by decide) (fun c_3 => ?_) (fun c_3 => ?_)
  · skip
    have c_3' : r_2.toInt ≥ 0 := jb_ge (rfl) ((by decide)) c_3
    refine lv_aload_n hx hb dX13_checkNew_32 rfl (lv_at hl 0 rfl) ?_
    refine lv_bipush (v := 6) hx hb dX13_checkNew_33 (by decide) ?_
    refine va_callv (A0 := jA base) (H0 := s.heap) (va_runV (As := [.int 6]) (rest := []) ⟨hx, hb, hml, hown, hts⟩ (uX13_fails l dC dI ca base B hB hAp hB15 G0 H_1 r0 6) (cwV 1 hts (jgV (jWr_64 _ (List.mem_of_getElem? (i := 19) rfl)) (jWr_64 _ (List.mem_of_getElem? (i := 20) rfl)) (jWr_64 _ (List.mem_of_getElem? (i := 21) rfl)) (jWr_12 _ (List.mem_of_getElem? (i := 12) rfl)) (jWr_64 _ (List.mem_of_getElem? (i := 22) rfl))) rfl rfl rfl (by decide +kernel) ⟨by rw [← hR]; exact Nat.le_of_ble_eq_true rfl, by rw [← hR]; exact Nat.le_of_ble_eq_true rfl⟩) ⟨fun a U g mk q => by obtain ⟨q0, q1, q2, qK, q10, q11, q12⟩ := q; exact ⟨q0, q1, q2, jG.calling g mk a qK, q10, q11, q12⟩, hh_1.recv (C := RX13) (T := TX13) (N := 50) hB15 rfl (by decide) hg_r0 hK, fun U hU hW => ⟨rfl, hU, hh_1.2.1, hG.step hW hU hh_1.1, hg_r0, jP.nil, by first | omega | (refine ⟨?_, ?_⟩ <;> (first | omega | rfl | assumption | decide | exact Or.inl rfl | exact Or.inr rfl | (simp only; omega)))⟩⟩ rfl rfl hl.1 rfl (lv_room (Nat.le_of_ble_eq_true rfl)) dX13_checkNew_35 ⟨Nat.zero_le _, Nat.zero_le _⟩) hh_1.1 (fun q _ h => h) (fun q h => h) (fun u_4 t_4 H_4 locs_4 ht_4 hvm_4 hr_5 hb_4 hz_4 hk_4 hS_4 => ?_)
    obtain ⟨qu_4, rfl⟩ : ∃ z, z = u_4 := ⟨_, rfl⟩
    rw [ht_4] at hb_4
    obtain ⟨hb_41, hb_42, hb_43, hb_44, hb_45⟩ := hb_4
    have hh_4 : jSt (dC, dI) B base G0 G0 EX13_checkNew s.heap 0 0 [(r0, 15, 34, .int qu_4)] [] [] H_4 locs_4 := ((hh_1.call hb_41 hb_42 hb_43 hb_44 hS_4 rfl (L1 := []) [] rfl rfl (M1 := []) [] rfl rfl (I1 := []) [] rfl rfl).more hb_45)
    clear hh_1 ht_4 hvm_4 hz_4 hk_4 hS_4 hb_41 hb_42 hb_43 hb_44 hb_45
    obtain ⟨hr_5_0, hr_5_1⟩ := hr_5
    rw [hQ]
    exact W.vret hx hb hr (fun t ht hW => ⟨⟨(), rfl, trivial, hh_4.rt (M1 := []) [] rfl ht⟩, by rw [ht]; try exact hh_4.1.1, fun q h9 hq => by rw [ht]; try exact hh_4.1.2.1 q h9 hq⟩) hh_4.1.2.2 dX13_checkNew_38
  · skip
    have c_3' : r_2.toInt < 0 := jb_ge_n (rfl) ((by decide)) c_3
    refine lv_aload_n hx hb dX13_checkNew_8 rfl (lv_at hl 0 rfl) ?_
    refine lv_iload_n hx hb dX13_checkNew_9 rfl (lv_at hl 1 rfl) ?_
    refine va_calli (A0 := jA base) (H0 := s.heap) (va_runV (As := [.int a1]) (rest := []) ⟨hx, hb, hml, hown, hts⟩ (uX13_factOf l dC dI ca base B hB hAp hB15 hB163 G0 H_1 r0 a1) (cwV 1 hts (jgV (jWr_64 _ (List.mem_of_getElem? (i := 7) rfl)) (jWr_64 _ (List.mem_of_getElem? (i := 8) rfl)) (jWr_64 _ (List.mem_of_getElem? (i := 9) rfl)) (jWr_12 _ (List.mem_of_getElem? (i := 12) rfl)) (jWr_64 _ (List.mem_of_getElem? (i := 10) rfl))) rfl rfl rfl (by decide +kernel) ⟨by rw [← hR]; exact Nat.le_of_ble_eq_true rfl, by rw [← hR]; exact Nat.le_of_ble_eq_true rfl⟩) ⟨fun a U g mk q => by obtain ⟨q0, q1, q2, qK, q10, q11, q12⟩ := q; exact ⟨q0, q1, q2, jG.calling g mk a qK, q10, q11, q12⟩, hh_1.recv (C := RX13) (T := TX13) (N := 50) hB15 rfl (by decide) hg_r0 hK, fun U hU hW => ⟨rfl, hU, hh_1.2.1, hG.step hW hU hh_1.1, hg_r0, jP.nil, trivial⟩⟩ rfl rfl hl.1 rfl (lv_room (Nat.le_of_ble_eq_true rfl)) dX13_checkNew_10 ⟨Nat.zero_le _, Nat.zero_le _⟩) hh_1.1 (fun q _ h => h) (fun q h => h) (fun r_7 u_6 t_6 H_6 locs_6 ht_6 hvm_6 hr_7 hb_6 hz_6 hk_6 hS_6 => ?_)
    rw [ht_6] at hb_6
    obtain ⟨hb_61, hb_62, hb_63, hb_64, hb_65⟩ := hb_6
    have hh_6 : jSt (dC, dI) B base G0 G0 EX13_checkNew s.heap 0 0 [] [] [] H_6 locs_6 := ((hh_1.call hb_61 hb_62 hb_63 hb_64 hS_6 rfl (L1 := []) [] rfl rfl (M1 := []) [] rfl rfl (I1 := []) [] rfl rfl).more hb_65)
    clear hh_1 ht_6 hvm_6 hz_6 hk_6 hS_6 hb_61 hb_62 hb_63 hb_64 hb_65
    obtain ⟨hr_7_0, hr_7_1⟩ := hr_7
    refine lv_if_ge (tgt := 32) hx hb dX13_checkNew_13 (by decide) (fun c_8 => ?_) (fun c_8 => ?_)
    · skip
      have c_8' : r_7.toInt ≥ 0 := jb_ge (rfl) ((by decide)) c_8
      refine lv_aload_n hx hb dX13_checkNew_32 rfl (lv_at hl 0 rfl) ?_
      refine lv_bipush (v := 6) hx hb dX13_checkNew_33 (by decide) ?_
      refine va_callv (A0 := jA base) (H0 := s.heap) (va_runV (As := [.int 6]) (rest := []) ⟨hx, hb, hml, hown, hts⟩ (uX13_fails l dC dI ca base B hB hAp hB15 G0 H_6 r0 6) (cwV 1 hts (jgV (jWr_64 _ (List.mem_of_getElem? (i := 19) rfl)) (jWr_64 _ (List.mem_of_getElem? (i := 20) rfl)) (jWr_64 _ (List.mem_of_getElem? (i := 21) rfl)) (jWr_12 _ (List.mem_of_getElem? (i := 12) rfl)) (jWr_64 _ (List.mem_of_getElem? (i := 22) rfl))) rfl rfl rfl (by decide +kernel) ⟨by rw [← hR]; exact Nat.le_of_ble_eq_true rfl, by rw [← hR]; exact Nat.le_of_ble_eq_true rfl⟩) ⟨fun a U g mk q => by obtain ⟨q0, q1, q2, qK, q10, q11, q12⟩ := q; exact ⟨q0, q1, q2, jG.calling g mk a qK, q10, q11, q12⟩, hh_6.recv (C := RX13) (T := TX13) (N := 50) hB15 rfl (by decide) hg_r0 hK, fun U hU hW => ⟨rfl, hU, hh_6.2.1, hG.step hW hU hh_6.1, hg_r0, jP.nil, by first | omega | (refine ⟨?_, ?_⟩ <;> (first | omega | rfl | assumption | decide | exact Or.inl rfl | exact Or.inr rfl | (simp only; omega)))⟩⟩ rfl rfl hl.1 rfl (lv_room (Nat.le_of_ble_eq_true rfl)) dX13_checkNew_35 ⟨Nat.zero_le _, Nat.zero_le _⟩) hh_6.1 (fun q _ h => h) (fun q h => h) (fun u_9 t_9 H_9 locs_9 ht_9 hvm_9 hr_10 hb_9 hz_9 hk_9 hS_9 => ?_)
      obtain ⟨qu_9, rfl⟩ : ∃ z, z = u_9 := ⟨_, rfl⟩
      rw [ht_9] at hb_9
      obtain ⟨hb_91, hb_92, hb_93, hb_94, hb_95⟩ := hb_9
      have hh_9 : jSt (dC, dI) B base G0 G0 EX13_checkNew s.heap 0 0 [(r0, 15, 34, .int qu_9)] [] [] H_9 locs_9 := ((hh_6.call hb_91 hb_92 hb_93 hb_94 hS_9 rfl (L1 := []) [] rfl rfl (M1 := []) [] rfl rfl (I1 := []) [] rfl rfl).more hb_95)
      clear hh_6 ht_9 hvm_9 hz_9 hk_9 hS_9 hb_91 hb_92 hb_93 hb_94 hb_95
      obtain ⟨hr_10_0, hr_10_1⟩ := hr_10
      rw [hQ]
      exact W.vret hx hb hr (fun t ht hW => ⟨⟨(), rfl, trivial, hh_9.rt (M1 := []) [] rfl ht⟩, by rw [ht]; try exact hh_9.1.1, fun q h9 hq => by rw [ht]; try exact hh_9.1.2.1 q h9 hq⟩) hh_9.1.2.2 dX13_checkNew_38
    · skip
      have c_8' : r_7.toInt < 0 := jb_ge_n (rfl) ((by decide)) c_8
      refine lv_aload_n hx hb dX13_checkNew_16 rfl (lv_at hl 0 rfl) ?_
      refine lv_iload_n hx hb dX13_checkNew_17 rfl (lv_at hl 1 rfl) ?_
      refine va_calli (A0 := jA base) (H0 := s.heap) (va_runV (As := [.int a1]) (rest := []) ⟨hx, hb, hml, hown, hts⟩ (uX13_isVariable l dC dI ca base B hB hAp hB15 hB158 hB163 G0 H_6 r0 a1) (cwV 1 hts (jgV (jWr_64 _ (List.mem_of_getElem? (i := 11) rfl)) (jWr_64 _ (List.mem_of_getElem? (i := 12) rfl)) (jWr_64 _ (List.mem_of_getElem? (i := 13) rfl)) (jWr_12 _ (List.mem_of_getElem? (i := 12) rfl)) (jWr_64 _ (List.mem_of_getElem? (i := 14) rfl))) rfl rfl rfl (by decide +kernel) ⟨by rw [← hR]; exact Nat.le_of_ble_eq_true rfl, by rw [← hR]; exact Nat.le_of_ble_eq_true rfl⟩) ⟨fun a U g mk q => by obtain ⟨q0, q1, q2, qK, q10, q11, q12⟩ := q; exact ⟨q0, q1, q2, jG.calling g mk a qK, q10, q11, q12⟩, hh_6.recv (C := RX13) (T := TX13) (N := 50) hB15 rfl (by decide) hg_r0 hK, fun U hU hW => ⟨rfl, hU, hh_6.2.1, hG.step hW hU hh_6.1, hg_r0, jP.nil, trivial⟩⟩ rfl rfl hl.1 rfl (lv_room (Nat.le_of_ble_eq_true rfl)) dX13_checkNew_18 ⟨Nat.zero_le _, Nat.zero_le _⟩) hh_6.1 (fun q _ h => h) (fun q h => h) (fun r_12 u_11 t_11 H_11 locs_11 ht_11 hvm_11 hr_12 hb_11 hz_11 hk_11 hS_11 => ?_)
      rw [ht_11] at hb_11
      obtain ⟨hb_111, hb_112, hb_113, hb_114, hb_115⟩ := hb_11
      have hh_11 : jSt (dC, dI) B base G0 G0 EX13_checkNew s.heap 0 0 [] [] [] H_11 locs_11 := ((hh_6.call hb_111 hb_112 hb_113 hb_114 hS_11 rfl (L1 := []) [] rfl rfl (M1 := []) [] rfl rfl (I1 := []) [] rfl rfl).more hb_115)
      clear hh_6 ht_11 hvm_11 hz_11 hk_11 hS_11 hb_111 hb_112 hb_113 hb_114 hb_115
      obtain ⟨hr_12b, hr_12p⟩ := hr_12
      have hr_12' := jb_01 hr_12b
      refine lv_if_ne (tgt := 32) hx hb dX13_checkNew_21 (by decide) (fun c_13 => ?_) (fun c_13 => ?_)
      · skip
        have c_13' : r_12.toInt ≠ 0 := jb_ne (rfl) ((by decide)) c_13
        refine lv_aload_n hx hb dX13_checkNew_32 rfl (lv_at hl 0 rfl) ?_
        refine lv_bipush (v := 6) hx hb dX13_checkNew_33 (by decide) ?_
        refine va_callv (A0 := jA base) (H0 := s.heap) (va_runV (As := [.int 6]) (rest := []) ⟨hx, hb, hml, hown, hts⟩ (uX13_fails l dC dI ca base B hB hAp hB15 G0 H_11 r0 6) (cwV 1 hts (jgV (jWr_64 _ (List.mem_of_getElem? (i := 19) rfl)) (jWr_64 _ (List.mem_of_getElem? (i := 20) rfl)) (jWr_64 _ (List.mem_of_getElem? (i := 21) rfl)) (jWr_12 _ (List.mem_of_getElem? (i := 12) rfl)) (jWr_64 _ (List.mem_of_getElem? (i := 22) rfl))) rfl rfl rfl (by decide +kernel) ⟨by rw [← hR]; exact Nat.le_of_ble_eq_true rfl, by rw [← hR]; exact Nat.le_of_ble_eq_true rfl⟩) ⟨fun a U g mk q => by obtain ⟨q0, q1, q2, qK, q10, q11, q12⟩ := q; exact ⟨q0, q1, q2, jG.calling g mk a qK, q10, q11, q12⟩, hh_11.recv (C := RX13) (T := TX13) (N := 50) hB15 rfl (by decide) hg_r0 hK, fun U hU hW => ⟨rfl, hU, hh_11.2.1, hG.step hW hU hh_11.1, hg_r0, jP.nil, by first | omega | (refine ⟨?_, ?_⟩ <;> (first | omega | rfl | assumption | decide | exact Or.inl rfl | exact Or.inr rfl | (simp only; omega)))⟩⟩ rfl rfl hl.1 rfl (lv_room (Nat.le_of_ble_eq_true rfl)) dX13_checkNew_35 ⟨Nat.zero_le _, Nat.zero_le _⟩) hh_11.1 (fun q _ h => h) (fun q h => h) (fun u_14 t_14 H_14 locs_14 ht_14 hvm_14 hr_15 hb_14 hz_14 hk_14 hS_14 => ?_)
        obtain ⟨qu_14, rfl⟩ : ∃ z, z = u_14 := ⟨_, rfl⟩
        rw [ht_14] at hb_14
        obtain ⟨hb_141, hb_142, hb_143, hb_144, hb_145⟩ := hb_14
        have hh_14 : jSt (dC, dI) B base G0 G0 EX13_checkNew s.heap 0 0 [(r0, 15, 34, .int qu_14)] [] [] H_14 locs_14 := ((hh_11.call hb_141 hb_142 hb_143 hb_144 hS_14 rfl (L1 := []) [] rfl rfl (M1 := []) [] rfl rfl (I1 := []) [] rfl rfl).more hb_145)
        clear hh_11 ht_14 hvm_14 hz_14 hk_14 hS_14 hb_141 hb_142 hb_143 hb_144 hb_145
        obtain ⟨hr_15_0, hr_15_1⟩ := hr_15
        rw [hQ]
        exact W.vret hx hb hr (fun t ht hW => ⟨⟨(), rfl, trivial, hh_14.rt (M1 := []) [] rfl ht⟩, by rw [ht]; try exact hh_14.1.1, fun q h9 hq => by rw [ht]; try exact hh_14.1.2.1 q h9 hq⟩) hh_14.1.2.2 dX13_checkNew_38
      · skip
        have c_13' : r_12.toInt = 0 := jb_ne_n (rfl) ((by decide)) c_13
        refine lv_aload_n hx hb dX13_checkNew_24 rfl (lv_at hl 0 rfl) ?_
        refine lv_iload_n hx hb dX13_checkNew_25 rfl (lv_at hl 1 rfl) ?_
        refine va_calli (A0 := jA base) (H0 := s.heap) (va_runV (As := [.int a1]) (rest := []) ⟨hx, hb, hml, hown, hts⟩ (uX13_hypOf l dC dI ca base B hB hAp hB15 hB159 hB163 G0 H_11 r0 a1) (cwV 1 hts (jgV (jWr_64 _ (List.mem_of_getElem? (i := 15) rfl)) (jWr_64 _ (List.mem_of_getElem? (i := 16) rfl)) (jWr_64 _ (List.mem_of_getElem? (i := 17) rfl)) (jWr_12 _ (List.mem_of_getElem? (i := 12) rfl)) (jWr_64 _ (List.mem_of_getElem? (i := 18) rfl))) rfl rfl rfl (by decide +kernel) ⟨by rw [← hR]; exact Nat.le_of_ble_eq_true rfl, by rw [← hR]; exact Nat.le_of_ble_eq_true rfl⟩) ⟨fun a U g mk q => by obtain ⟨q0, q1, q2, qK, q10, q11, q12⟩ := q; exact ⟨q0, q1, q2, jG.calling g mk a qK, q10, q11, q12⟩, hh_11.recv (C := RX13) (T := TX13) (N := 50) hB15 rfl (by decide) hg_r0 hK, fun U hU hW => ⟨rfl, hU, hh_11.2.1, hG.step hW hU hh_11.1, hg_r0, jP.nil, trivial⟩⟩ rfl rfl hl.1 rfl (lv_room (Nat.le_of_ble_eq_true rfl)) dX13_checkNew_26 ⟨Nat.zero_le _, Nat.zero_le _⟩) hh_11.1 (fun q _ h => h) (fun q h => h) (fun r_17 u_16 t_16 H_16 locs_16 ht_16 hvm_16 hr_17 hb_16 hz_16 hk_16 hS_16 => ?_)
        rw [ht_16] at hb_16
        obtain ⟨hb_161, hb_162, hb_163, hb_164, hb_165⟩ := hb_16
        have hh_16 : jSt (dC, dI) B base G0 G0 EX13_checkNew s.heap 0 0 [] [] [] H_16 locs_16 := ((hh_11.call hb_161 hb_162 hb_163 hb_164 hS_16 rfl (L1 := []) [] rfl rfl (M1 := []) [] rfl rfl (I1 := []) [] rfl rfl).more hb_165)
        clear hh_11 ht_16 hvm_16 hz_16 hk_16 hS_16 hb_161 hb_162 hb_163 hb_164 hb_165
        obtain ⟨hr_17_0, hr_17_1⟩ := hr_17
        refine lv_if_lt (tgt := 38) hx hb dX13_checkNew_29 (by decide) (fun c_18 => ?_) (fun c_18 => ?_)
        · skip
          have c_18' : r_17.toInt < 0 := jb_lt (rfl) ((by decide)) c_18
          rw [hQ]
          exact W.vret hx hb hr (fun t ht hW => ⟨⟨(), rfl, trivial, hh_16.rt (M1 := []) [] rfl ht⟩, by rw [ht]; try exact hh_16.1.1, fun q h9 hq => by rw [ht]; try exact hh_16.1.2.1 q h9 hq⟩) hh_16.1.2.2 dX13_checkNew_38
        · skip
          have c_18' : r_17.toInt ≥ 0 := jb_lt_n (rfl) ((by decide)) c_18
          refine lv_aload_n hx hb dX13_checkNew_32 rfl (lv_at hl 0 rfl) ?_
          refine lv_bipush (v := 6) hx hb dX13_checkNew_33 (by decide) ?_
          refine va_callv (A0 := jA base) (H0 := s.heap) (va_runV (As := [.int 6]) (rest := []) ⟨hx, hb, hml, hown, hts⟩ (uX13_fails l dC dI ca base B hB hAp hB15 G0 H_16 r0 6) (cwV 1 hts (jgV (jWr_64 _ (List.mem_of_getElem? (i := 19) rfl)) (jWr_64 _ (List.mem_of_getElem? (i := 20) rfl)) (jWr_64 _ (List.mem_of_getElem? (i := 21) rfl)) (jWr_12 _ (List.mem_of_getElem? (i := 12) rfl)) (jWr_64 _ (List.mem_of_getElem? (i := 22) rfl))) rfl rfl rfl (by decide +kernel) ⟨by rw [← hR]; exact Nat.le_of_ble_eq_true rfl, by rw [← hR]; exact Nat.le_of_ble_eq_true rfl⟩) ⟨fun a U g mk q => by obtain ⟨q0, q1, q2, qK, q10, q11, q12⟩ := q; exact ⟨q0, q1, q2, jG.calling g mk a qK, q10, q11, q12⟩, hh_16.recv (C := RX13) (T := TX13) (N := 50) hB15 rfl (by decide) hg_r0 hK, fun U hU hW => ⟨rfl, hU, hh_16.2.1, hG.step hW hU hh_16.1, hg_r0, jP.nil, by first | omega | (refine ⟨?_, ?_⟩ <;> (first | omega | rfl | assumption | decide | exact Or.inl rfl | exact Or.inr rfl | (simp only; omega)))⟩⟩ rfl rfl hl.1 rfl (lv_room (Nat.le_of_ble_eq_true rfl)) dX13_checkNew_35 ⟨Nat.zero_le _, Nat.zero_le _⟩) hh_16.1 (fun q _ h => h) (fun q h => h) (fun u_19 t_19 H_19 locs_19 ht_19 hvm_19 hr_20 hb_19 hz_19 hk_19 hS_19 => ?_)
          obtain ⟨qu_19, rfl⟩ : ∃ z, z = u_19 := ⟨_, rfl⟩
          rw [ht_19] at hb_19
          obtain ⟨hb_191, hb_192, hb_193, hb_194, hb_195⟩ := hb_19
          have hh_19 : jSt (dC, dI) B base G0 G0 EX13_checkNew s.heap 0 0 [(r0, 15, 34, .int qu_19)] [] [] H_19 locs_19 := ((hh_16.call hb_191 hb_192 hb_193 hb_194 hS_19 rfl (L1 := []) [] rfl rfl (M1 := []) [] rfl rfl (I1 := []) [] rfl rfl).more hb_195)
          clear hh_16 ht_19 hvm_19 hz_19 hk_19 hS_19 hb_191 hb_192 hb_193 hb_194 hb_195
          obtain ⟨hr_20_0, hr_20_1⟩ := hr_20
          rw [hQ]
          exact W.vret hx hb hr (fun t ht hW => ⟨⟨(), rfl, trivial, hh_19.rt (M1 := []) [] rfl ht⟩, by rw [ht]; try exact hh_19.1.1, fun q h9 hq => by rw [ht]; try exact hh_19.1.2.1 q h9 hq⟩) hh_19.1.2.2 dX13_checkNew_38
set_option maxHeartbeats 4000000 in
set_option maxRecDepth 20000 in
theorem uX13_addFact (l : Launch) (dC : Nat → ClassId) (dI : Nat → Nat → Nat) (ca : Nat → ClassId) (base : Nat) (B : jF) (hB : jBok B) (hAp : jAp (dC, dI)) (hB15 : ∀ n G a H, B 15 n G a H ↔ jOb (dC, dI) 15 50 (F15 n G) a H) (hB160 : ∀ n G a H, B 160 n G a H ↔ jAr (dC, dI) (ca 1) (fun j z => 0 ≤ z.toInt ∧ z.toInt ≤ 119999) n a H) (hB163 : ∀ n G a H, B 163 n G a H ↔ jAr (dC, dI) (ca 1) (fun j z => 0 ≤ z.toInt ∧ z.toInt ≤ 1599) n a H) (G0 : jT) (H0 : Heap) (r0 : Nat) (a1 : Int32) (a2 : Int32) (pf : Int32) : Met l yX13_addFact (jw yX13_addFact cX13_addFact 3 none) ({ frames := 0, cells := 0, slots := 0, locals := 0 }) (va_Pc [.ref r0, .int a1, .int a2] (fun U => U.heap = H0 ∧ jX B base G0 [] H0 ∧ jG dC dI ca base U ∧ G0 r0 = some (15, 0) ∧ jP (dC, dI) G0 H0 [(r0, 15, 15, .int pf)] ∧ 0 ≤ pf.toInt ∧ pf.toInt ≤ 15 ∧ 0 ≤ a1.toInt ∧ a1.toInt ≤ 1599 ∧ 0 ≤ a2.toInt ∧ a2.toInt ≤ 119999)) (va_Qv (S := Int32) (fun u => u.toInt = pf.toInt + 1) (fun u t => jRt (dC, dI) B base G0 EX13_addFact H0 [(r0, 15, 15, .int u)] t.heap) (jA base)) 0 0 (jA base) := by
  refine Met.ofW (cc := cX13_addFact) (maxL := 3) (ret := none) (by decide) rfl ?_
  intro p e s m args below meth c s₁ Bd hml hv
  obtain ⟨rfl, hH0, hX, hG, hg_r0, hP0, hp0, hp1, hp2, hp3, hp4, hp5⟩ := hv
  have hK := hG.1
  have hx := Bd.exec
  have hb := Bd.bytes
  have hr := Bd.returns
  have hts := atoms_spec (ws := (jw yX13_addFact cX13_addFact 3 none)) Bd.pre
  have htw : ∀ w ∈ jWl, w.before _ s = true := fun w h => hts w (List.mem_cons_of_mem _ h)
  have hown : s.vm.findClass RX13 = some m.cls := findClass_of_methodNamed Bd.named
  have hlocks := Bd.notSynchronized
  obtain ⟨Q, hQ⟩ : ∃ Q, Q = MQ below (va_Qv (S := Int32) (fun u => u.toInt = pf.toInt + 1) (fun u t => jRt (dC, dI) B base G0 EX13_addFact H0 [(r0, 15, 15, .int u)] t.heap) (jA base)) ([.ref r0, .int a1, .int a2] : List Value).toArray s 0 0 (jA base) := ⟨_, rfl⟩
  rw [← hQ]
  have hl := lv_entry ([.ref r0, .int a1, .int a2]) (n := 3) (Nat.le_of_ble_eq_true rfl)
  rw [lg_entry_eq]
  generalize (lg_sl ([.ref r0, .int a1, .int a2]) ++ List.replicate (3 - (lg_sl ([.ref r0, .int a1, .int a2])).length) Slot.unset).toArray = ls at hl ⊢
  have hl : lv_has ls 3 [(0, .ref r0), (1, .int a1), (2, .int a2)] := hl
  generalize hR : (headSpec (jw yX13_addFact cX13_addFact 3 none) ({ frames := 0, cells := 0, slots := 0, locals := 0 })).room = R
  subst hH0
  have hh : jSt (dC, dI) B base G0 G0 EX13_addFact s.heap 0 0 [(r0, 15, 15, .int pf)] [] [] s.heap [] := jSt.start hX hP0 jMc.nil jIs.nil
  clear hX hP0
  have hk0 : (0 : Int32).toInt = 0 := by decide
  have hk1 : (1 : Int32).toInt = 1 := by decide
  have hly_15_15 := htw (u_lay RX13 TX13 15) (jWc_wsX130 _ (u_in_lay (by decide)))
  have hly_15_16 := htw (u_lay RX13 TX13 16) (jWc_wsX130 _ (u_in_lay (by decide)))
  have hly_15_17 := htw (u_lay RX13 TX13 17) (jWc_wsX130 _ (u_in_lay (by decide)))
  have hlk_47 := (htw (.fieldLink RX13 47 "ProofServerModel$Kernel" "factName" "[I") (jWr_14 _ (List.mem_of_getElem? (i := 20) rfl)))
  have hlk_112 := (htw (.fieldLink RX13 112 "ProofServerModel$Kernel" "facts" "I") (jWr_59 _ (List.mem_of_getElem? (i := 18) rfl)))
  have hlk_50 := (htw (.fieldLink RX13 50 "ProofServerModel$Kernel" "fact" "[I") (jWr_14 _ (List.mem_of_getElem? (i := 21) rfl)))
  have hrg_a1 := jb_rng a1
  have hrg_a2 := jb_rng a2
  refine lv_aload_n hx hb dX13_addFact_0 rfl (lv_at hl 0 rfl) ?_
  obtain ⟨v_1, hv_1, hh_2⟩ := hh.pin (C := RX13) (T := TX13) (N := 50) hB15 rfl (by decide) hg_r0 (i := 16) (by decide) rfl
  clear hh
  obtain ⟨factName_3, rfl, hg_factName_3⟩ := hv_1
  refine j7_read hx hb hown hK (C := RX13) (T := TX13) (N := 50) rfl hly_15_16 hlk_47 (hh_2.at 0 rfl) dX13_addFact_1 ?_
  refine lv_aload_n hx hb dX13_addFact_4 rfl (lv_at hl 0 rfl) ?_
  refine j7_read hx hb hown hK (C := RX13) (T := TX13) (N := 50) rfl hly_15_15 hlk_112 (hh_2.at 1 rfl) dX13_addFact_5 ?_
  refine lv_iload_n hx hb dX13_addFact_8 rfl (lv_at hl 1 rfl) ?_
  refine j7_iast hx hb hK hh_2 hB hB163 1 rfl (by decide) (by decide) rfl rfl rfl hg_factName_3 (x := pf.toInt) (rfl) (by omega) (by first | omega | (refine ⟨?_, ?_⟩ <;> (first | omega | rfl | assumption | decide | exact Or.inl rfl | exact Or.inr rfl | (simp only; omega)))) dX13_addFact_9 (fun H_4 locs_4 hh_4 => ?_)
  clear hh_2
  refine lv_aload_n hx hb dX13_addFact_10 rfl (lv_at hl 0 rfl) ?_
  obtain ⟨v_5, hv_5, hh_6⟩ := hh_4.pin (C := RX13) (T := TX13) (N := 50) hB15 rfl (by decide) hg_r0 (i := 17) (by decide) rfl
  clear hh_4
  obtain ⟨fact_7, rfl, hg_fact_7⟩ := hv_5
  refine j7_read hx hb hown hK (C := RX13) (T := TX13) (N := 50) rfl hly_15_17 hlk_50 (hh_6.at 0 rfl) dX13_addFact_11 ?_
  refine lv_aload_n hx hb dX13_addFact_14 rfl (lv_at hl 0 rfl) ?_
  refine j7_read hx hb hown hK (C := RX13) (T := TX13) (N := 50) rfl hly_15_15 hlk_112 (hh_6.at 2 rfl) dX13_addFact_15 ?_
  refine lv_iload_n hx hb dX13_addFact_18 rfl (lv_at hl 2 rfl) ?_
  refine j7_iast hx hb hK hh_6 hB hB160 1 rfl (by decide) (by decide) rfl rfl rfl hg_fact_7 (x := pf.toInt) (rfl) (by omega) (by first | omega | (refine ⟨?_, ?_⟩ <;> (first | omega | rfl | assumption | decide | exact Or.inl rfl | exact Or.inr rfl | (simp only; omega)))) dX13_addFact_19 (fun H_8 locs_8 hh_8 => ?_)
  clear hh_6
  refine lv_aload_n hx hb dX13_addFact_20 rfl (lv_at hl 0 rfl) ?_
  refine lv_dup hx hb dX13_addFact_21 rfl ?_
  refine j7_read hx hb hown hK (C := RX13) (T := TX13) (N := 50) rfl hly_15_15 hlk_112 (hh_8.at 2 rfl) dX13_addFact_22 ?_
  refine lv_iconst (v := 1) hx hb dX13_addFact_25 (by decide) ?_
  refine lv_iadd hx hb dX13_addFact_26 ?_
  refine lv_topi (fun z_9 ez_9 => ?_)
  have hz_9 : z_9.toInt = pf.toInt + 1 := by rw [ez_9]; exact jb_iadd2 (rfl) ((by decide)) (by omega)
  refine j7_put hx hb hown hK hh_8 hB hAp hB15 (C := RX13) (T := TX13) (N := 50) rfl (by decide) hg_r0 (i := 15) (by decide) hly_15_15 rfl hlk_112 rfl (ty := .int) (v := .int z_9) (by decide +kernel) rfl rfl (⟨_, rfl, by omega, by omega⟩) rfl (L1 := [(r0, 15, 17, .ref fact_7), (r0, 15, 16, .ref factName_3)]) [0, 1] rfl rfl rfl dX13_addFact_27 (fun H_10 locs_10 hh_10 => ?_)
  clear hh_8
  rw [hQ]
  exact W.vret hx hb hr (fun t ht hW => ⟨⟨z_9, rfl, by first | omega | rfl | assumption | decide | exact Or.inl rfl | exact Or.inr rfl | (simp only; omega), hh_10.rt (M1 := [(r0, 15, 15, .int z_9)]) [0] rfl ht⟩, by rw [ht]; try exact hh_10.1.1, fun q h9 hq => by rw [ht]; try exact hh_10.1.2.1 q h9 hq⟩) hh_10.1.2.2 dX13_addFact_30
set_option maxHeartbeats 4000000 in
set_option maxRecDepth 20000 in
theorem uX13_close (l : Launch) (dC : Nat → ClassId) (dI : Nat → Nat → Nat) (ca : Nat → ClassId) (base : Nat) (B : jF) (hB : jBok B) (hAp : jAp (dC, dI)) (hB15 : ∀ n G a H, B 15 n G a H ↔ jOb (dC, dI) 15 50 (F15 n G) a H) (hB160 : ∀ n G a H, B 160 n G a H ↔ jAr (dC, dI) (ca 1) (fun j z => 0 ≤ z.toInt ∧ z.toInt ≤ 119999) n a H) (hB163 : ∀ n G a H, B 163 n G a H ↔ jAr (dC, dI) (ca 1) (fun j z => 0 ≤ z.toInt ∧ z.toInt ≤ 1599) n a H) (G0 : jT) (H0 : Heap) (r0 : Nat) (a1 : Int32) : Met l yX13_close (jw yX13_close cX13_close 2 none) ({ frames := 1, cells := 0, slots := 0, locals := 22 }) (va_Pc [.ref r0, .int a1] (fun U => U.heap = H0 ∧ jX B base G0 [] H0 ∧ jG dC dI ca base U ∧ G0 r0 = some (15, 0) ∧ jP (dC, dI) G0 H0 [] ∧ True)) (va_Qv (S := Unit) (fun u => True) (fun u t => jRt (dC, dI) B base G0 EX13_close H0 [] t.heap) (jA base)) 0 0 (jA base) := by
  refine Met.ofW (cc := cX13_close) (maxL := 2) (ret := none) (by decide) rfl ?_
  intro p e s m args below meth c s₁ Bd hml hv
  obtain ⟨rfl, hH0, hX, hG, hg_r0, hP0, hp0⟩ := hv
  have hK := hG.1
  have hx := Bd.exec
  have hb := Bd.bytes
  have hr := Bd.returns
  have hts := atoms_spec (ws := (jw yX13_close cX13_close 2 none)) Bd.pre
  have htw : ∀ w ∈ jWl, w.before _ s = true := fun w h => hts w (List.mem_cons_of_mem _ h)
  have hown : s.vm.findClass RX13 = some m.cls := findClass_of_methodNamed Bd.named
  have hlocks := Bd.notSynchronized
  obtain ⟨Q, hQ⟩ : ∃ Q, Q = MQ below (va_Qv (S := Unit) (fun u => True) (fun u t => jRt (dC, dI) B base G0 EX13_close H0 [] t.heap) (jA base)) ([.ref r0, .int a1] : List Value).toArray s 0 0 (jA base) := ⟨_, rfl⟩
  rw [← hQ]
  have hl := lv_entry ([.ref r0, .int a1]) (n := 2) (Nat.le_of_ble_eq_true rfl)
  rw [lg_entry_eq]
  generalize (lg_sl ([.ref r0, .int a1]) ++ List.replicate (2 - (lg_sl ([.ref r0, .int a1])).length) Slot.unset).toArray = ls at hl ⊢
  have hl : lv_has ls 2 [(0, .ref r0), (1, .int a1)] := hl
  generalize hR : (headSpec (jw yX13_close cX13_close 2 none) ({ frames := 1, cells := 0, slots := 0, locals := 22 })).room = R
  subst hH0
  have hh : jSt (dC, dI) B base G0 G0 EX13_close s.heap 0 0 [] [] [] s.heap [] := jSt.start hX hP0 jMc.nil jIs.nil
  clear hX hP0
  have hk0 : (0 : Int32).toInt = 0 := by decide
  have hk1 : (1 : Int32).toInt = 1 := by decide
  have hk4 : (4 : Int32).toInt = 4 := by decide
  have hk7 : (7 : Int32).toInt = 7 := by decide
  have hk9 : (9 : Int32).toInt = 9 := by decide
  have hk16 : (16 : Int32).toInt = 16 := by decide
  have hly_15_15 := htw (u_lay RX13 TX13 15) (jWc_wsX130 _ (u_in_lay (by decide)))
  have hly_15_18 := htw (u_lay RX13 TX13 18) (jWc_wsX130 _ (u_in_lay (by decide)))
  have hly_15_19 := htw (u_lay RX13 TX13 19) (jWc_wsX130 _ (u_in_lay (by decide)))
  have hly_15_20 := htw (u_lay RX13 TX13 20) (jWc_wsX130 _ (u_in_lay (by decide)))
  have hly_15_21 := htw (u_lay RX13 TX13 21) (jWc_wsX130 _ (u_in_lay (by decide)))
  have hly_15_34 := htw (u_lay RX13 TX13 34) (jWc_wsX130 _ (u_in_lay (by decide)))
  have hlk_119 := (htw (.fieldLink RX13 119 "ProofServerModel$Kernel" "goals" "I") (jWr_59 _ (List.mem_of_getElem? (i := 20) rfl)))
  have hlk_112 := (htw (.fieldLink RX13 112 "ProofServerModel$Kernel" "facts" "I") (jWr_59 _ (List.mem_of_getElem? (i := 18) rfl)))
  have hlk_221 := (htw (.fieldLink RX13 221 "ProofServerModel$Kernel" "fault" "I") (jWr_60 _ (List.mem_of_getElem? (i := 3) rfl)))
  have hlk_330 := (htw (.fieldLink RX13 330 "ProofServerModel$Kernel" "lemmaName" "I") (jWr_63 _ (List.mem_of_getElem? (i := 21) rfl)))
  have hlk_333 := (htw (.fieldLink RX13 333 "ProofServerModel$Kernel" "lemma" "I") (jWr_63 _ (List.mem_of_getElem? (i := 22) rfl)))
  have hlk_115 := (htw (.fieldLink RX13 115 "ProofServerModel$Kernel" "proof" "Z") (jWr_59 _ (List.mem_of_getElem? (i := 19) rfl)))
  have hrg_a1 := jb_rng a1
  refine lv_iload_n hx hb dX13_close_0 rfl (lv_at hl 1 rfl) ?_
  refine lv_iconst (v := 4) hx hb dX13_close_1 (by decide) ?_
  refine lv_icmp_ne (tgt := 53) hx hb dX13_close_2 (by decide) (fun c_1 => ?_) (fun c_1 => ?_)
  · skip
    have c_1' : a1.toInt ≠ 4 := jb_ne (rfl) ((by decide)) c_1
    refine lv_aload_n hx hb dX13_close_53 rfl (lv_at hl 0 rfl) ?_
    refine lv_iconst (v := 0) hx hb dX13_close_54 (by decide) ?_
    refine j7_put hx hb hown hK hh hB hAp hB15 (C := RX13) (T := TX13) (N := 50) rfl (by decide) hg_r0 (i := 18) (by decide) hly_15_18 rfl hlk_115 rfl (ty := .boolean) (v := .int 0) (by decide +kernel) (jb_nz (Or.inl rfl)) (jb_fz (Or.inl rfl)) (⟨_, rfl, (Or.inl rfl)⟩) rfl (L1 := []) [] rfl rfl rfl dX13_close_55 (fun H_2 locs_2 hh_2 => ?_)
    clear hh
    refine lv_aload_n hx hb dX13_close_58 rfl (lv_at hl 0 rfl) ?_
    refine lv_iconst (v := 0) hx hb dX13_close_59 (by decide) ?_
    refine j7_put hx hb hown hK hh_2 hB hAp hB15 (C := RX13) (T := TX13) (N := 50) rfl (by decide) hg_r0 (i := 21) (by decide) hly_15_21 rfl hlk_119 rfl (ty := .int) (v := .int 0) (by decide +kernel) rfl rfl (⟨_, rfl, by omega, by omega⟩) rfl (L1 := [(r0, 15, 18, .int 0)]) [0] rfl rfl rfl dX13_close_60 (fun H_3 locs_3 hh_3 => ?_)
    clear hh_2
    rw [hQ]
    exact W.vret hx hb hr (fun t ht hW => ⟨⟨(), rfl, trivial, hh_3.rt (M1 := []) [] rfl ht⟩, by rw [ht]; try exact hh_3.1.1, fun q h9 hq => by rw [ht]; try exact hh_3.1.2.1 q h9 hq⟩) hh_3.1.2.2 dX13_close_63
  · skip
    have c_1' : a1.toInt = 4 := jb_ne_n (rfl) ((by decide)) c_1
    refine lv_aload_n hx hb dX13_close_5 rfl (lv_at hl 0 rfl) ?_
    obtain ⟨v_4, hv_4, hh_5⟩ := hh.pin (C := RX13) (T := TX13) (N := 50) hB15 rfl (by decide) hg_r0 (i := 21) (by decide) rfl
    clear hh
    obtain ⟨goals_6, rfl, hlogoals_6, hhigoals_6⟩ := hv_4
    refine j7_read hx hb hown hK (C := RX13) (T := TX13) (N := 50) rfl hly_15_21 hlk_119 (hh_5.at 0 rfl) dX13_close_6 ?_
    refine lv_if_le (tgt := 18) hx hb dX13_close_9 (by decide) (fun c_7 => ?_) (fun c_7 => ?_)
    · skip
      have c_7' : goals_6.toInt ≤ 0 := jb_le (rfl) ((by decide)) c_7
      refine lv_aload_n hx hb dX13_close_18 rfl (lv_at hl 0 rfl) ?_
      obtain ⟨v_8, hv_8, hh_9⟩ := hh_5.pin (C := RX13) (T := TX13) (N := 50) hB15 rfl (by decide) hg_r0 (i := 15) (by decide) rfl
      clear hh_5
      obtain ⟨facts_10, rfl, hlofacts_10, hhifacts_10⟩ := hv_8
      refine j7_read hx hb hown hK (C := RX13) (T := TX13) (N := 50) rfl hly_15_15 hlk_112 (hh_9.at 0 rfl) dX13_close_19 ?_
      refine lv_bipush (v := 16) hx hb dX13_close_22 (by decide) ?_
      refine lv_icmp_ne (tgt := 33) hx hb dX13_close_24 (by decide) (fun c_11 => ?_) (fun c_11 => ?_)
      · skip
        have c_11' : facts_10.toInt ≠ 16 := jb_ne (rfl) ((by decide)) c_11
        refine lv_aload_n hx hb dX13_close_33 rfl (lv_at hl 0 rfl) ?_
        obtain ⟨v_12, hv_12, hh_13⟩ := hh_9.pin (C := RX13) (T := TX13) (N := 50) hB15 rfl (by decide) hg_r0 (i := 34) (by decide) rfl
        clear hh_9
        obtain ⟨fault_14, rfl, hlofault_14, hhifault_14⟩ := hv_12
        refine j7_read hx hb hown hK (C := RX13) (T := TX13) (N := 50) rfl hly_15_34 hlk_221 (hh_13.at 0 rfl) dX13_close_34 ?_
        refine lv_if_le (tgt := 41) hx hb dX13_close_37 (by decide) (fun c_15 => ?_) (fun c_15 => ?_)
        · skip
          have c_15' : fault_14.toInt ≤ 0 := jb_le (rfl) ((by decide)) c_15
          refine lv_aload_n hx hb dX13_close_41 rfl (lv_at hl 0 rfl) ?_
          refine lv_aload_n hx hb dX13_close_42 rfl (lv_at hl 0 rfl) ?_
          obtain ⟨v_16, hv_16, hh_17⟩ := hh_13.pin (C := RX13) (T := TX13) (N := 50) hB15 rfl (by decide) hg_r0 (i := 19) (by decide) rfl
          clear hh_13
          obtain ⟨lemmaName_18, rfl, hlolemmaName_18, hhilemmaName_18⟩ := hv_16
          refine j7_read hx hb hown hK (C := RX13) (T := TX13) (N := 50) rfl hly_15_19 hlk_330 (hh_17.at 0 rfl) dX13_close_43 ?_
          refine lv_aload_n hx hb dX13_close_46 rfl (lv_at hl 0 rfl) ?_
          obtain ⟨v_19, hv_19, hh_20⟩ := hh_17.pin (C := RX13) (T := TX13) (N := 50) hB15 rfl (by decide) hg_r0 (i := 20) (by decide) rfl
          clear hh_17
          obtain ⟨lemma_21, rfl, hlolemma_21, hhilemma_21⟩ := hv_19
          refine j7_read hx hb hown hK (C := RX13) (T := TX13) (N := 50) rfl hly_15_20 hlk_333 (hh_20.at 0 rfl) dX13_close_47 ?_
          refine va_callv (A0 := jA base) (H0 := s.heap) (va_runV (As := [.int lemmaName_18, .int lemma_21]) (rest := []) ⟨hx, hb, hml, hown, hts⟩ (uX13_addFact l dC dI ca base B hB hAp hB15 hB160 hB163 G0 s.heap r0 lemmaName_18 lemma_21 facts_10) (cwV 2 hts (jgV (jWr_65 _ (List.mem_of_getElem? (i := 23) rfl)) (jWr_66 _ (List.mem_of_getElem? (i := 0) rfl)) (jWr_66 _ (List.mem_of_getElem? (i := 1) rfl)) (jWr_12 _ (List.mem_of_getElem? (i := 12) rfl)) (jWr_66 _ (List.mem_of_getElem? (i := 2) rfl))) rfl rfl rfl (by decide +kernel) ⟨by rw [← hR]; exact Nat.le_of_ble_eq_true rfl, by rw [← hR]; exact Nat.le_of_ble_eq_true rfl⟩) ⟨fun a U g mk q => by obtain ⟨q0, q1, q2, qK, q10, q11, q12⟩ := q; exact ⟨q0, q1, q2, jG.calling g mk a qK, q10, q11, q12⟩, hh_20.recv (C := RX13) (T := TX13) (N := 50) hB15 rfl (by decide) hg_r0 hK, fun U hU hW => ⟨rfl, hU, hh_20.2.1, hG.step hW hU hh_20.1, hg_r0, (hh_20.2.2.1.sub (L1 := [(r0, 15, 15, .int facts_10)]) [3] rfl), by first | omega | (refine ⟨?_, ?_, ?_, ?_, ?_, ?_⟩ <;> (first | omega | rfl | assumption | decide | exact Or.inl rfl | exact Or.inr rfl | (simp only; omega)))⟩⟩ rfl rfl hl.1 rfl (lv_room (Nat.le_of_ble_eq_true rfl)) dX13_close_50 ⟨Nat.zero_le _, Nat.zero_le _⟩) hh_20.1 (fun q _ h => h) (fun q h => h) (fun u_22 t_22 H_22 locs_22 ht_22 hvm_22 hr_23 hb_22 hz_22 hk_22 hS_22 => ?_)
          obtain ⟨qf_22, rfl⟩ : ∃ z, z = u_22 := ⟨_, rfl⟩
          rw [ht_22] at hb_22
          obtain ⟨hb_221, hb_222, hb_223, hb_224, hb_225⟩ := hb_22
          have hh_22 : jSt (dC, dI) B base G0 G0 EX13_close s.heap 0 0 [(r0, 15, 15, .int qf_22), (r0, 15, 20, .int lemma_21), (r0, 15, 19, .int lemmaName_18), (r0, 15, 34, .int fault_14), (r0, 15, 21, .int goals_6)] [] [] H_22 locs_22 := ((hh_20.call hb_221 hb_222 hb_223 hb_224 hS_22 rfl (L1 := [(r0, 15, 20, .int lemma_21), (r0, 15, 19, .int lemmaName_18), (r0, 15, 34, .int fault_14), (r0, 15, 21, .int goals_6)]) [0, 1, 2, 4] rfl rfl (M1 := []) [] rfl rfl (I1 := []) [] rfl rfl).more hb_225)
          clear hh_20 ht_22 hvm_22 hz_22 hk_22 hS_22 hb_221 hb_222 hb_223 hb_224 hb_225
          refine lv_aload_n hx hb dX13_close_53 rfl (lv_at hl 0 rfl) ?_
          refine lv_iconst (v := 0) hx hb dX13_close_54 (by decide) ?_
          refine j7_put hx hb hown hK hh_22 hB hAp hB15 (C := RX13) (T := TX13) (N := 50) rfl (by decide) hg_r0 (i := 18) (by decide) hly_15_18 rfl hlk_115 rfl (ty := .boolean) (v := .int 0) (by decide +kernel) (jb_nz (Or.inl rfl)) (jb_fz (Or.inl rfl)) (⟨_, rfl, (Or.inl rfl)⟩) rfl (L1 := [(r0, 15, 15, .int qf_22), (r0, 15, 20, .int lemma_21), (r0, 15, 19, .int lemmaName_18), (r0, 15, 34, .int fault_14), (r0, 15, 21, .int goals_6)]) [0, 1, 2, 3, 4] rfl rfl rfl dX13_close_55 (fun H_24 locs_24 hh_24 => ?_)
          clear hh_22
          refine lv_aload_n hx hb dX13_close_58 rfl (lv_at hl 0 rfl) ?_
          refine lv_iconst (v := 0) hx hb dX13_close_59 (by decide) ?_
          refine j7_put hx hb hown hK hh_24 hB hAp hB15 (C := RX13) (T := TX13) (N := 50) rfl (by decide) hg_r0 (i := 21) (by decide) hly_15_21 rfl hlk_119 rfl (ty := .int) (v := .int 0) (by decide +kernel) rfl rfl (⟨_, rfl, by omega, by omega⟩) rfl (L1 := [(r0, 15, 18, .int 0), (r0, 15, 15, .int qf_22), (r0, 15, 20, .int lemma_21), (r0, 15, 19, .int lemmaName_18), (r0, 15, 34, .int fault_14)]) [0, 1, 2, 3, 4] rfl rfl rfl dX13_close_60 (fun H_25 locs_25 hh_25 => ?_)
          clear hh_24
          rw [hQ]
          exact W.vret hx hb hr (fun t ht hW => ⟨⟨(), rfl, trivial, hh_25.rt (M1 := []) [] rfl ht⟩, by rw [ht]; try exact hh_25.1.1, fun q h9 hq => by rw [ht]; try exact hh_25.1.2.1 q h9 hq⟩) hh_25.1.2.2 dX13_close_63
        · skip
          have c_15' : fault_14.toInt > 0 := jb_le_n (rfl) ((by decide)) c_15
          rw [hQ]
          exact W.vret hx hb hr (fun t ht hW => ⟨⟨(), rfl, trivial, hh_13.rt (M1 := []) [] rfl ht⟩, by rw [ht]; try exact hh_13.1.1, fun q h9 hq => by rw [ht]; try exact hh_13.1.2.1 q h9 hq⟩) hh_13.1.2.2 dX13_close_40
      · skip
        have c_11' : facts_10.toInt = 16 := jb_ne_n (rfl) ((by decide)) c_11
        refine lv_aload_n hx hb dX13_close_27 rfl (lv_at hl 0 rfl) ?_
        refine lv_bipush (v := 9) hx hb dX13_close_28 (by decide) ?_
        refine va_callv (A0 := jA base) (H0 := s.heap) (va_runV (As := [.int 9]) (rest := []) ⟨hx, hb, hml, hown, hts⟩ (uX13_fails l dC dI ca base B hB hAp hB15 G0 s.heap r0 9) (cwV 1 hts (jgV (jWr_64 _ (List.mem_of_getElem? (i := 19) rfl)) (jWr_64 _ (List.mem_of_getElem? (i := 20) rfl)) (jWr_64 _ (List.mem_of_getElem? (i := 21) rfl)) (jWr_12 _ (List.mem_of_getElem? (i := 12) rfl)) (jWr_64 _ (List.mem_of_getElem? (i := 22) rfl))) rfl rfl rfl (by decide +kernel) ⟨by rw [← hR]; exact Nat.le_of_ble_eq_true rfl, by rw [← hR]; exact Nat.le_of_ble_eq_true rfl⟩) ⟨fun a U g mk q => by obtain ⟨q0, q1, q2, qK, q10, q11, q12⟩ := q; exact ⟨q0, q1, q2, jG.calling g mk a qK, q10, q11, q12⟩, hh_9.recv (C := RX13) (T := TX13) (N := 50) hB15 rfl (by decide) hg_r0 hK, fun U hU hW => ⟨rfl, hU, hh_9.2.1, hG.step hW hU hh_9.1, hg_r0, jP.nil, by first | omega | (refine ⟨?_, ?_⟩ <;> (first | omega | rfl | assumption | decide | exact Or.inl rfl | exact Or.inr rfl | (simp only; omega)))⟩⟩ rfl rfl hl.1 rfl (lv_room (Nat.le_of_ble_eq_true rfl)) dX13_close_30 ⟨Nat.zero_le _, Nat.zero_le _⟩) hh_9.1 (fun q _ h => h) (fun q h => h) (fun u_26 t_26 H_26 locs_26 ht_26 hvm_26 hr_27 hb_26 hz_26 hk_26 hS_26 => ?_)
        obtain ⟨qu_26, rfl⟩ : ∃ z, z = u_26 := ⟨_, rfl⟩
        rw [ht_26] at hb_26
        obtain ⟨hb_261, hb_262, hb_263, hb_264, hb_265⟩ := hb_26
        have hh_26 : jSt (dC, dI) B base G0 G0 EX13_close s.heap 0 0 [(r0, 15, 34, .int qu_26), (r0, 15, 15, .int facts_10), (r0, 15, 21, .int goals_6)] [] [] H_26 locs_26 := ((hh_9.call hb_261 hb_262 hb_263 hb_264 hS_26 rfl (L1 := [(r0, 15, 15, .int facts_10), (r0, 15, 21, .int goals_6)]) [0, 1] rfl rfl (M1 := []) [] rfl rfl (I1 := []) [] rfl rfl).more hb_265)
        clear hh_9 ht_26 hvm_26 hz_26 hk_26 hS_26 hb_261 hb_262 hb_263 hb_264 hb_265
        obtain ⟨hr_27_0, hr_27_1⟩ := hr_27
        refine lv_aload_n hx hb dX13_close_33 rfl (lv_at hl 0 rfl) ?_
        refine j7_read hx hb hown hK (C := RX13) (T := TX13) (N := 50) rfl hly_15_34 hlk_221 (hh_26.at 0 rfl) dX13_close_34 ?_
        refine lv_if_le (tgt := 41) hx hb dX13_close_37 (by decide) (fun c_28 => ?_) (fun c_28 => ?_)
        · skip
          have c_28' : qu_26.toInt ≤ 0 := jb_le (rfl) ((by decide)) c_28
          refine lv_aload_n hx hb dX13_close_41 rfl (lv_at hl 0 rfl) ?_
          refine lv_aload_n hx hb dX13_close_42 rfl (lv_at hl 0 rfl) ?_
          obtain ⟨v_29, hv_29, hh_30⟩ := hh_26.pin (C := RX13) (T := TX13) (N := 50) hB15 rfl (by decide) hg_r0 (i := 19) (by decide) rfl
          clear hh_26
          obtain ⟨lemmaName_31, rfl, hlolemmaName_31, hhilemmaName_31⟩ := hv_29
          refine j7_read hx hb hown hK (C := RX13) (T := TX13) (N := 50) rfl hly_15_19 hlk_330 (hh_30.at 0 rfl) dX13_close_43 ?_
          refine lv_aload_n hx hb dX13_close_46 rfl (lv_at hl 0 rfl) ?_
          obtain ⟨v_32, hv_32, hh_33⟩ := hh_30.pin (C := RX13) (T := TX13) (N := 50) hB15 rfl (by decide) hg_r0 (i := 20) (by decide) rfl
          clear hh_30
          obtain ⟨lemma_34, rfl, hlolemma_34, hhilemma_34⟩ := hv_32
          refine j7_read hx hb hown hK (C := RX13) (T := TX13) (N := 50) rfl hly_15_20 hlk_333 (hh_33.at 0 rfl) dX13_close_47 ?_
          refine va_callv (A0 := jA base) (H0 := s.heap) (va_runV (As := [.int lemmaName_31, .int lemma_34]) (rest := []) ⟨hx, hb, hml, hown, hts⟩ (uX13_addFact l dC dI ca base B hB hAp hB15 hB160 hB163 G0 H_26 r0 lemmaName_31 lemma_34 facts_10) (cwV 2 hts (jgV (jWr_65 _ (List.mem_of_getElem? (i := 23) rfl)) (jWr_66 _ (List.mem_of_getElem? (i := 0) rfl)) (jWr_66 _ (List.mem_of_getElem? (i := 1) rfl)) (jWr_12 _ (List.mem_of_getElem? (i := 12) rfl)) (jWr_66 _ (List.mem_of_getElem? (i := 2) rfl))) rfl rfl rfl (by decide +kernel) ⟨by rw [← hR]; exact Nat.le_of_ble_eq_true rfl, by rw [← hR]; exact Nat.le_of_ble_eq_true rfl⟩) ⟨fun a U g mk q => by obtain ⟨q0, q1, q2, qK, q10, q11, q12⟩ := q; exact ⟨q0, q1, q2, jG.calling g mk a qK, q10, q11, q12⟩, hh_33.recv (C := RX13) (T := TX13) (N := 50) hB15 rfl (by decide) hg_r0 hK, fun U hU hW => ⟨rfl, hU, hh_33.2.1, hG.step hW hU hh_33.1, hg_r0, (hh_33.2.2.1.sub (L1 := [(r0, 15, 15, .int facts_10)]) [3] rfl), by first | omega | (refine ⟨?_, ?_, ?_, ?_, ?_, ?_⟩ <;> (first | omega | rfl | assumption | decide | exact Or.inl rfl | exact Or.inr rfl | (simp only; omega)))⟩⟩ rfl rfl hl.1 rfl (lv_room (Nat.le_of_ble_eq_true rfl)) dX13_close_50 ⟨Nat.zero_le _, Nat.zero_le _⟩) hh_33.1 (fun q _ h => h) (fun q h => h) (fun u_35 t_35 H_35 locs_35 ht_35 hvm_35 hr_36 hb_35 hz_35 hk_35 hS_35 => ?_)
          obtain ⟨qf_35, rfl⟩ : ∃ z, z = u_35 := ⟨_, rfl⟩
          rw [ht_35] at hb_35
          obtain ⟨hb_351, hb_352, hb_353, hb_354, hb_355⟩ := hb_35
          have hh_35 : jSt (dC, dI) B base G0 G0 EX13_close s.heap 0 0 [(r0, 15, 15, .int qf_35), (r0, 15, 20, .int lemma_34), (r0, 15, 19, .int lemmaName_31), (r0, 15, 34, .int qu_26), (r0, 15, 21, .int goals_6)] [] [] H_35 locs_35 := ((hh_33.call hb_351 hb_352 hb_353 hb_354 hS_35 rfl (L1 := [(r0, 15, 20, .int lemma_34), (r0, 15, 19, .int lemmaName_31), (r0, 15, 34, .int qu_26), (r0, 15, 21, .int goals_6)]) [0, 1, 2, 4] rfl rfl (M1 := []) [] rfl rfl (I1 := []) [] rfl rfl).more hb_355)
          clear hh_33 ht_35 hvm_35 hz_35 hk_35 hS_35 hb_351 hb_352 hb_353 hb_354 hb_355
          refine lv_aload_n hx hb dX13_close_53 rfl (lv_at hl 0 rfl) ?_
          refine lv_iconst (v := 0) hx hb dX13_close_54 (by decide) ?_
          refine j7_put hx hb hown hK hh_35 hB hAp hB15 (C := RX13) (T := TX13) (N := 50) rfl (by decide) hg_r0 (i := 18) (by decide) hly_15_18 rfl hlk_115 rfl (ty := .boolean) (v := .int 0) (by decide +kernel) (jb_nz (Or.inl rfl)) (jb_fz (Or.inl rfl)) (⟨_, rfl, (Or.inl rfl)⟩) rfl (L1 := [(r0, 15, 15, .int qf_35), (r0, 15, 20, .int lemma_34), (r0, 15, 19, .int lemmaName_31), (r0, 15, 34, .int qu_26), (r0, 15, 21, .int goals_6)]) [0, 1, 2, 3, 4] rfl rfl rfl dX13_close_55 (fun H_37 locs_37 hh_37 => ?_)
          clear hh_35
          refine lv_aload_n hx hb dX13_close_58 rfl (lv_at hl 0 rfl) ?_
          refine lv_iconst (v := 0) hx hb dX13_close_59 (by decide) ?_
          refine j7_put hx hb hown hK hh_37 hB hAp hB15 (C := RX13) (T := TX13) (N := 50) rfl (by decide) hg_r0 (i := 21) (by decide) hly_15_21 rfl hlk_119 rfl (ty := .int) (v := .int 0) (by decide +kernel) rfl rfl (⟨_, rfl, by omega, by omega⟩) rfl (L1 := [(r0, 15, 18, .int 0), (r0, 15, 15, .int qf_35), (r0, 15, 20, .int lemma_34), (r0, 15, 19, .int lemmaName_31), (r0, 15, 34, .int qu_26)]) [0, 1, 2, 3, 4] rfl rfl rfl dX13_close_60 (fun H_38 locs_38 hh_38 => ?_)
          clear hh_37
          rw [hQ]
          exact W.vret hx hb hr (fun t ht hW => ⟨⟨(), rfl, trivial, hh_38.rt (M1 := []) [] rfl ht⟩, by rw [ht]; try exact hh_38.1.1, fun q h9 hq => by rw [ht]; try exact hh_38.1.2.1 q h9 hq⟩) hh_38.1.2.2 dX13_close_63
        · skip
          have c_28' : qu_26.toInt > 0 := jb_le_n (rfl) ((by decide)) c_28
          rw [hQ]
          exact W.vret hx hb hr (fun t ht hW => ⟨⟨(), rfl, trivial, hh_26.rt (M1 := []) [] rfl ht⟩, by rw [ht]; try exact hh_26.1.1, fun q h9 hq => by rw [ht]; try exact hh_26.1.2.1 q h9 hq⟩) hh_26.1.2.2 dX13_close_40
    · skip
      have c_7' : goals_6.toInt > 0 := jb_le_n (rfl) ((by decide)) c_7
      refine lv_aload_n hx hb dX13_close_12 rfl (lv_at hl 0 rfl) ?_
      refine lv_bipush (v := 7) hx hb dX13_close_13 (by decide) ?_
      refine va_callv (A0 := jA base) (H0 := s.heap) (va_runV (As := [.int 7]) (rest := []) ⟨hx, hb, hml, hown, hts⟩ (uX13_fails l dC dI ca base B hB hAp hB15 G0 s.heap r0 7) (cwV 1 hts (jgV (jWr_64 _ (List.mem_of_getElem? (i := 19) rfl)) (jWr_64 _ (List.mem_of_getElem? (i := 20) rfl)) (jWr_64 _ (List.mem_of_getElem? (i := 21) rfl)) (jWr_12 _ (List.mem_of_getElem? (i := 12) rfl)) (jWr_64 _ (List.mem_of_getElem? (i := 22) rfl))) rfl rfl rfl (by decide +kernel) ⟨by rw [← hR]; exact Nat.le_of_ble_eq_true rfl, by rw [← hR]; exact Nat.le_of_ble_eq_true rfl⟩) ⟨fun a U g mk q => by obtain ⟨q0, q1, q2, qK, q10, q11, q12⟩ := q; exact ⟨q0, q1, q2, jG.calling g mk a qK, q10, q11, q12⟩, hh_5.recv (C := RX13) (T := TX13) (N := 50) hB15 rfl (by decide) hg_r0 hK, fun U hU hW => ⟨rfl, hU, hh_5.2.1, hG.step hW hU hh_5.1, hg_r0, jP.nil, by first | omega | (refine ⟨?_, ?_⟩ <;> (first | omega | rfl | assumption | decide | exact Or.inl rfl | exact Or.inr rfl | (simp only; omega)))⟩⟩ rfl rfl hl.1 rfl (lv_room (Nat.le_of_ble_eq_true rfl)) dX13_close_15 ⟨Nat.zero_le _, Nat.zero_le _⟩) hh_5.1 (fun q _ h => h) (fun q h => h) (fun u_39 t_39 H_39 locs_39 ht_39 hvm_39 hr_40 hb_39 hz_39 hk_39 hS_39 => ?_)
      obtain ⟨qu_39, rfl⟩ : ∃ z, z = u_39 := ⟨_, rfl⟩
      rw [ht_39] at hb_39
      obtain ⟨hb_391, hb_392, hb_393, hb_394, hb_395⟩ := hb_39
      have hh_39 : jSt (dC, dI) B base G0 G0 EX13_close s.heap 0 0 [(r0, 15, 34, .int qu_39), (r0, 15, 21, .int goals_6)] [] [] H_39 locs_39 := ((hh_5.call hb_391 hb_392 hb_393 hb_394 hS_39 rfl (L1 := [(r0, 15, 21, .int goals_6)]) [0] rfl rfl (M1 := []) [] rfl rfl (I1 := []) [] rfl rfl).more hb_395)
      clear hh_5 ht_39 hvm_39 hz_39 hk_39 hS_39 hb_391 hb_392 hb_393 hb_394 hb_395
      obtain ⟨hr_40_0, hr_40_1⟩ := hr_40
      refine lv_aload_n hx hb dX13_close_18 rfl (lv_at hl 0 rfl) ?_
      obtain ⟨v_41, hv_41, hh_42⟩ := hh_39.pin (C := RX13) (T := TX13) (N := 50) hB15 rfl (by decide) hg_r0 (i := 15) (by decide) rfl
      clear hh_39
      obtain ⟨facts_43, rfl, hlofacts_43, hhifacts_43⟩ := hv_41
      refine j7_read hx hb hown hK (C := RX13) (T := TX13) (N := 50) rfl hly_15_15 hlk_112 (hh_42.at 0 rfl) dX13_close_19 ?_
      refine lv_bipush (v := 16) hx hb dX13_close_22 (by decide) ?_
      refine lv_icmp_ne (tgt := 33) hx hb dX13_close_24 (by decide) (fun c_44 => ?_) (fun c_44 => ?_)
      · skip
        have c_44' : facts_43.toInt ≠ 16 := jb_ne (rfl) ((by decide)) c_44
        refine lv_aload_n hx hb dX13_close_33 rfl (lv_at hl 0 rfl) ?_
        refine j7_read hx hb hown hK (C := RX13) (T := TX13) (N := 50) rfl hly_15_34 hlk_221 (hh_42.at 1 rfl) dX13_close_34 ?_
        refine lv_if_le (tgt := 41) hx hb dX13_close_37 (by decide) (fun c_45 => ?_) (fun c_45 => ?_)
        · skip
          have c_45' : qu_39.toInt ≤ 0 := jb_le (rfl) ((by decide)) c_45
          refine lv_aload_n hx hb dX13_close_41 rfl (lv_at hl 0 rfl) ?_
          refine lv_aload_n hx hb dX13_close_42 rfl (lv_at hl 0 rfl) ?_
          obtain ⟨v_46, hv_46, hh_47⟩ := hh_42.pin (C := RX13) (T := TX13) (N := 50) hB15 rfl (by decide) hg_r0 (i := 19) (by decide) rfl
          clear hh_42
          obtain ⟨lemmaName_48, rfl, hlolemmaName_48, hhilemmaName_48⟩ := hv_46
          refine j7_read hx hb hown hK (C := RX13) (T := TX13) (N := 50) rfl hly_15_19 hlk_330 (hh_47.at 0 rfl) dX13_close_43 ?_
          refine lv_aload_n hx hb dX13_close_46 rfl (lv_at hl 0 rfl) ?_
          obtain ⟨v_49, hv_49, hh_50⟩ := hh_47.pin (C := RX13) (T := TX13) (N := 50) hB15 rfl (by decide) hg_r0 (i := 20) (by decide) rfl
          clear hh_47
          obtain ⟨lemma_51, rfl, hlolemma_51, hhilemma_51⟩ := hv_49
          refine j7_read hx hb hown hK (C := RX13) (T := TX13) (N := 50) rfl hly_15_20 hlk_333 (hh_50.at 0 rfl) dX13_close_47 ?_
          refine va_callv (A0 := jA base) (H0 := s.heap) (va_runV (As := [.int lemmaName_48, .int lemma_51]) (rest := []) ⟨hx, hb, hml, hown, hts⟩ (uX13_addFact l dC dI ca base B hB hAp hB15 hB160 hB163 G0 H_39 r0 lemmaName_48 lemma_51 facts_43) (cwV 2 hts (jgV (jWr_65 _ (List.mem_of_getElem? (i := 23) rfl)) (jWr_66 _ (List.mem_of_getElem? (i := 0) rfl)) (jWr_66 _ (List.mem_of_getElem? (i := 1) rfl)) (jWr_12 _ (List.mem_of_getElem? (i := 12) rfl)) (jWr_66 _ (List.mem_of_getElem? (i := 2) rfl))) rfl rfl rfl (by decide +kernel) ⟨by rw [← hR]; exact Nat.le_of_ble_eq_true rfl, by rw [← hR]; exact Nat.le_of_ble_eq_true rfl⟩) ⟨fun a U g mk q => by obtain ⟨q0, q1, q2, qK, q10, q11, q12⟩ := q; exact ⟨q0, q1, q2, jG.calling g mk a qK, q10, q11, q12⟩, hh_50.recv (C := RX13) (T := TX13) (N := 50) hB15 rfl (by decide) hg_r0 hK, fun U hU hW => ⟨rfl, hU, hh_50.2.1, hG.step hW hU hh_50.1, hg_r0, (hh_50.2.2.1.sub (L1 := [(r0, 15, 15, .int facts_43)]) [2] rfl), by first | omega | (refine ⟨?_, ?_, ?_, ?_, ?_, ?_⟩ <;> (first | omega | rfl | assumption | decide | exact Or.inl rfl | exact Or.inr rfl | (simp only; omega)))⟩⟩ rfl rfl hl.1 rfl (lv_room (Nat.le_of_ble_eq_true rfl)) dX13_close_50 ⟨Nat.zero_le _, Nat.zero_le _⟩) hh_50.1 (fun q _ h => h) (fun q h => h) (fun u_52 t_52 H_52 locs_52 ht_52 hvm_52 hr_53 hb_52 hz_52 hk_52 hS_52 => ?_)
          obtain ⟨qf_52, rfl⟩ : ∃ z, z = u_52 := ⟨_, rfl⟩
          rw [ht_52] at hb_52
          obtain ⟨hb_521, hb_522, hb_523, hb_524, hb_525⟩ := hb_52
          have hh_52 : jSt (dC, dI) B base G0 G0 EX13_close s.heap 0 0 [(r0, 15, 15, .int qf_52), (r0, 15, 20, .int lemma_51), (r0, 15, 19, .int lemmaName_48), (r0, 15, 34, .int qu_39), (r0, 15, 21, .int goals_6)] [] [] H_52 locs_52 := ((hh_50.call hb_521 hb_522 hb_523 hb_524 hS_52 rfl (L1 := [(r0, 15, 20, .int lemma_51), (r0, 15, 19, .int lemmaName_48), (r0, 15, 34, .int qu_39), (r0, 15, 21, .int goals_6)]) [0, 1, 3, 4] rfl rfl (M1 := []) [] rfl rfl (I1 := []) [] rfl rfl).more hb_525)
          clear hh_50 ht_52 hvm_52 hz_52 hk_52 hS_52 hb_521 hb_522 hb_523 hb_524 hb_525
          refine lv_aload_n hx hb dX13_close_53 rfl (lv_at hl 0 rfl) ?_
          refine lv_iconst (v := 0) hx hb dX13_close_54 (by decide) ?_
          refine j7_put hx hb hown hK hh_52 hB hAp hB15 (C := RX13) (T := TX13) (N := 50) rfl (by decide) hg_r0 (i := 18) (by decide) hly_15_18 rfl hlk_115 rfl (ty := .boolean) (v := .int 0) (by decide +kernel) (jb_nz (Or.inl rfl)) (jb_fz (Or.inl rfl)) (⟨_, rfl, (Or.inl rfl)⟩) rfl (L1 := [(r0, 15, 15, .int qf_52), (r0, 15, 20, .int lemma_51), (r0, 15, 19, .int lemmaName_48), (r0, 15, 34, .int qu_39), (r0, 15, 21, .int goals_6)]) [0, 1, 2, 3, 4] rfl rfl rfl dX13_close_55 (fun H_54 locs_54 hh_54 => ?_)
          clear hh_52
          refine lv_aload_n hx hb dX13_close_58 rfl (lv_at hl 0 rfl) ?_
          refine lv_iconst (v := 0) hx hb dX13_close_59 (by decide) ?_
          refine j7_put hx hb hown hK hh_54 hB hAp hB15 (C := RX13) (T := TX13) (N := 50) rfl (by decide) hg_r0 (i := 21) (by decide) hly_15_21 rfl hlk_119 rfl (ty := .int) (v := .int 0) (by decide +kernel) rfl rfl (⟨_, rfl, by omega, by omega⟩) rfl (L1 := [(r0, 15, 18, .int 0), (r0, 15, 15, .int qf_52), (r0, 15, 20, .int lemma_51), (r0, 15, 19, .int lemmaName_48), (r0, 15, 34, .int qu_39)]) [0, 1, 2, 3, 4] rfl rfl rfl dX13_close_60 (fun H_55 locs_55 hh_55 => ?_)
          clear hh_54
          rw [hQ]
          exact W.vret hx hb hr (fun t ht hW => ⟨⟨(), rfl, trivial, hh_55.rt (M1 := []) [] rfl ht⟩, by rw [ht]; try exact hh_55.1.1, fun q h9 hq => by rw [ht]; try exact hh_55.1.2.1 q h9 hq⟩) hh_55.1.2.2 dX13_close_63
        · skip
          have c_45' : qu_39.toInt > 0 := jb_le_n (rfl) ((by decide)) c_45
          rw [hQ]
          exact W.vret hx hb hr (fun t ht hW => ⟨⟨(), rfl, trivial, hh_42.rt (M1 := []) [] rfl ht⟩, by rw [ht]; try exact hh_42.1.1, fun q h9 hq => by rw [ht]; try exact hh_42.1.2.1 q h9 hq⟩) hh_42.1.2.2 dX13_close_40
      · skip
        have c_44' : facts_43.toInt = 16 := jb_ne_n (rfl) ((by decide)) c_44
        refine lv_aload_n hx hb dX13_close_27 rfl (lv_at hl 0 rfl) ?_
        refine lv_bipush (v := 9) hx hb dX13_close_28 (by decide) ?_
        refine va_callv (A0 := jA base) (H0 := s.heap) (va_runV (As := [.int 9]) (rest := []) ⟨hx, hb, hml, hown, hts⟩ (uX13_fails l dC dI ca base B hB hAp hB15 G0 H_39 r0 9) (cwV 1 hts (jgV (jWr_64 _ (List.mem_of_getElem? (i := 19) rfl)) (jWr_64 _ (List.mem_of_getElem? (i := 20) rfl)) (jWr_64 _ (List.mem_of_getElem? (i := 21) rfl)) (jWr_12 _ (List.mem_of_getElem? (i := 12) rfl)) (jWr_64 _ (List.mem_of_getElem? (i := 22) rfl))) rfl rfl rfl (by decide +kernel) ⟨by rw [← hR]; exact Nat.le_of_ble_eq_true rfl, by rw [← hR]; exact Nat.le_of_ble_eq_true rfl⟩) ⟨fun a U g mk q => by obtain ⟨q0, q1, q2, qK, q10, q11, q12⟩ := q; exact ⟨q0, q1, q2, jG.calling g mk a qK, q10, q11, q12⟩, hh_42.recv (C := RX13) (T := TX13) (N := 50) hB15 rfl (by decide) hg_r0 hK, fun U hU hW => ⟨rfl, hU, hh_42.2.1, hG.step hW hU hh_42.1, hg_r0, jP.nil, by first | omega | (refine ⟨?_, ?_⟩ <;> (first | omega | rfl | assumption | decide | exact Or.inl rfl | exact Or.inr rfl | (simp only; omega)))⟩⟩ rfl rfl hl.1 rfl (lv_room (Nat.le_of_ble_eq_true rfl)) dX13_close_30 ⟨Nat.zero_le _, Nat.zero_le _⟩) hh_42.1 (fun q _ h => h) (fun q h => h) (fun u_56 t_56 H_56 locs_56 ht_56 hvm_56 hr_57 hb_56 hz_56 hk_56 hS_56 => ?_)
        obtain ⟨qu_56, rfl⟩ : ∃ z, z = u_56 := ⟨_, rfl⟩
        rw [ht_56] at hb_56
        obtain ⟨hb_561, hb_562, hb_563, hb_564, hb_565⟩ := hb_56
        have hh_56 : jSt (dC, dI) B base G0 G0 EX13_close s.heap 0 0 [(r0, 15, 34, .int qu_56), (r0, 15, 15, .int facts_43), (r0, 15, 21, .int goals_6)] [] [] H_56 locs_56 := ((hh_42.call hb_561 hb_562 hb_563 hb_564 hS_56 rfl (L1 := [(r0, 15, 15, .int facts_43), (r0, 15, 21, .int goals_6)]) [0, 2] rfl rfl (M1 := []) [] rfl rfl (I1 := []) [] rfl rfl).more hb_565)
        clear hh_42 ht_56 hvm_56 hz_56 hk_56 hS_56 hb_561 hb_562 hb_563 hb_564 hb_565
        obtain ⟨hr_57_0, hr_57_1⟩ := hr_57
        refine lv_aload_n hx hb dX13_close_33 rfl (lv_at hl 0 rfl) ?_
        refine j7_read hx hb hown hK (C := RX13) (T := TX13) (N := 50) rfl hly_15_34 hlk_221 (hh_56.at 0 rfl) dX13_close_34 ?_
        refine lv_if_le (tgt := 41) hx hb dX13_close_37 (by decide) (fun c_58 => ?_) (fun c_58 => ?_)
        · skip
          have c_58' : qu_56.toInt ≤ 0 := jb_le (rfl) ((by decide)) c_58
          refine lv_aload_n hx hb dX13_close_41 rfl (lv_at hl 0 rfl) ?_
          refine lv_aload_n hx hb dX13_close_42 rfl (lv_at hl 0 rfl) ?_
          obtain ⟨v_59, hv_59, hh_60⟩ := hh_56.pin (C := RX13) (T := TX13) (N := 50) hB15 rfl (by decide) hg_r0 (i := 19) (by decide) rfl
          clear hh_56
          obtain ⟨lemmaName_61, rfl, hlolemmaName_61, hhilemmaName_61⟩ := hv_59
          refine j7_read hx hb hown hK (C := RX13) (T := TX13) (N := 50) rfl hly_15_19 hlk_330 (hh_60.at 0 rfl) dX13_close_43 ?_
          refine lv_aload_n hx hb dX13_close_46 rfl (lv_at hl 0 rfl) ?_
          obtain ⟨v_62, hv_62, hh_63⟩ := hh_60.pin (C := RX13) (T := TX13) (N := 50) hB15 rfl (by decide) hg_r0 (i := 20) (by decide) rfl
          clear hh_60
          obtain ⟨lemma_64, rfl, hlolemma_64, hhilemma_64⟩ := hv_62
          refine j7_read hx hb hown hK (C := RX13) (T := TX13) (N := 50) rfl hly_15_20 hlk_333 (hh_63.at 0 rfl) dX13_close_47 ?_
          refine va_callv (A0 := jA base) (H0 := s.heap) (va_runV (As := [.int lemmaName_61, .int lemma_64]) (rest := []) ⟨hx, hb, hml, hown, hts⟩ (uX13_addFact l dC dI ca base B hB hAp hB15 hB160 hB163 G0 H_56 r0 lemmaName_61 lemma_64 facts_43) (cwV 2 hts (jgV (jWr_65 _ (List.mem_of_getElem? (i := 23) rfl)) (jWr_66 _ (List.mem_of_getElem? (i := 0) rfl)) (jWr_66 _ (List.mem_of_getElem? (i := 1) rfl)) (jWr_12 _ (List.mem_of_getElem? (i := 12) rfl)) (jWr_66 _ (List.mem_of_getElem? (i := 2) rfl))) rfl rfl rfl (by decide +kernel) ⟨by rw [← hR]; exact Nat.le_of_ble_eq_true rfl, by rw [← hR]; exact Nat.le_of_ble_eq_true rfl⟩) ⟨fun a U g mk q => by obtain ⟨q0, q1, q2, qK, q10, q11, q12⟩ := q; exact ⟨q0, q1, q2, jG.calling g mk a qK, q10, q11, q12⟩, hh_63.recv (C := RX13) (T := TX13) (N := 50) hB15 rfl (by decide) hg_r0 hK, fun U hU hW => ⟨rfl, hU, hh_63.2.1, hG.step hW hU hh_63.1, hg_r0, (hh_63.2.2.1.sub (L1 := [(r0, 15, 15, .int facts_43)]) [3] rfl), by first | omega | (refine ⟨?_, ?_, ?_, ?_, ?_, ?_⟩ <;> (first | omega | rfl | assumption | decide | exact Or.inl rfl | exact Or.inr rfl | (simp only; omega)))⟩⟩ rfl rfl hl.1 rfl (lv_room (Nat.le_of_ble_eq_true rfl)) dX13_close_50 ⟨Nat.zero_le _, Nat.zero_le _⟩) hh_63.1 (fun q _ h => h) (fun q h => h) (fun u_65 t_65 H_65 locs_65 ht_65 hvm_65 hr_66 hb_65 hz_65 hk_65 hS_65 => ?_)
          obtain ⟨qf_65, rfl⟩ : ∃ z, z = u_65 := ⟨_, rfl⟩
          rw [ht_65] at hb_65
          obtain ⟨hb_651, hb_652, hb_653, hb_654, hb_655⟩ := hb_65
          have hh_65 : jSt (dC, dI) B base G0 G0 EX13_close s.heap 0 0 [(r0, 15, 15, .int qf_65), (r0, 15, 20, .int lemma_64), (r0, 15, 19, .int lemmaName_61), (r0, 15, 34, .int qu_56), (r0, 15, 21, .int goals_6)] [] [] H_65 locs_65 := ((hh_63.call hb_651 hb_652 hb_653 hb_654 hS_65 rfl (L1 := [(r0, 15, 20, .int lemma_64), (r0, 15, 19, .int lemmaName_61), (r0, 15, 34, .int qu_56), (r0, 15, 21, .int goals_6)]) [0, 1, 2, 4] rfl rfl (M1 := []) [] rfl rfl (I1 := []) [] rfl rfl).more hb_655)
          clear hh_63 ht_65 hvm_65 hz_65 hk_65 hS_65 hb_651 hb_652 hb_653 hb_654 hb_655
          refine lv_aload_n hx hb dX13_close_53 rfl (lv_at hl 0 rfl) ?_
          refine lv_iconst (v := 0) hx hb dX13_close_54 (by decide) ?_
          refine j7_put hx hb hown hK hh_65 hB hAp hB15 (C := RX13) (T := TX13) (N := 50) rfl (by decide) hg_r0 (i := 18) (by decide) hly_15_18 rfl hlk_115 rfl (ty := .boolean) (v := .int 0) (by decide +kernel) (jb_nz (Or.inl rfl)) (jb_fz (Or.inl rfl)) (⟨_, rfl, (Or.inl rfl)⟩) rfl (L1 := [(r0, 15, 15, .int qf_65), (r0, 15, 20, .int lemma_64), (r0, 15, 19, .int lemmaName_61), (r0, 15, 34, .int qu_56), (r0, 15, 21, .int goals_6)]) [0, 1, 2, 3, 4] rfl rfl rfl dX13_close_55 (fun H_67 locs_67 hh_67 => ?_)
          clear hh_65
          refine lv_aload_n hx hb dX13_close_58 rfl (lv_at hl 0 rfl) ?_
          refine lv_iconst (v := 0) hx hb dX13_close_59 (by decide) ?_
          refine j7_put hx hb hown hK hh_67 hB hAp hB15 (C := RX13) (T := TX13) (N := 50) rfl (by decide) hg_r0 (i := 21) (by decide) hly_15_21 rfl hlk_119 rfl (ty := .int) (v := .int 0) (by decide +kernel) rfl rfl (⟨_, rfl, by omega, by omega⟩) rfl (L1 := [(r0, 15, 18, .int 0), (r0, 15, 15, .int qf_65), (r0, 15, 20, .int lemma_64), (r0, 15, 19, .int lemmaName_61), (r0, 15, 34, .int qu_56)]) [0, 1, 2, 3, 4] rfl rfl rfl dX13_close_60 (fun H_68 locs_68 hh_68 => ?_)
          clear hh_67
          rw [hQ]
          exact W.vret hx hb hr (fun t ht hW => ⟨⟨(), rfl, trivial, hh_68.rt (M1 := []) [] rfl ht⟩, by rw [ht]; try exact hh_68.1.1, fun q h9 hq => by rw [ht]; try exact hh_68.1.2.1 q h9 hq⟩) hh_68.1.2.2 dX13_close_63
        · skip
          have c_58' : qu_56.toInt > 0 := jb_le_n (rfl) ((by decide)) c_58
          rw [hQ]
          exact W.vret hx hb hr (fun t ht hW => ⟨⟨(), rfl, trivial, hh_56.rt (M1 := []) [] rfl ht⟩, by rw [ht]; try exact hh_56.1.1, fun q h9 hq => by rw [ht]; try exact hh_56.1.2.1 q h9 hq⟩) hh_56.1.2.2 dX13_close_40
set_option maxHeartbeats 4000000 in
set_option maxRecDepth 20000 in
theorem uX13_copyGoal (l : Launch) (dC : Nat → ClassId) (dI : Nat → Nat → Nat) (ca : Nat → ClassId) (base : Nat) (B : jF) (hB : jBok B) (hAp : jAp (dC, dI)) (hB15 : ∀ n G a H, B 15 n G a H ↔ jOb (dC, dI) 15 50 (F15 n G) a H) (hB158 : ∀ n G a H, B 158 n G a H ↔ jAr (dC, dI) (ca 1) (fun j z => 0 ≤ z.toInt ∧ z.toInt ≤ 6) n a H) (hB159 : ∀ n G a H, B 159 n G a H ↔ jAr (dC, dI) (ca 1) (fun j z => 0 ≤ z.toInt ∧ z.toInt ≤ 8) n a H) (hB161 : ∀ n G a H, B 161 n G a H ↔ jAr (dC, dI) (ca 1) (fun j z => 0 ≤ z.toInt ∧ z.toInt ≤ 119999) n a H) (hB162 : ∀ n G a H, B 162 n G a H ↔ jAr (dC, dI) (ca 1) (fun j z => 0 ≤ z.toInt ∧ z.toInt ≤ 119999) n a H) (hB163 : ∀ n G a H, B 163 n G a H ↔ jAr (dC, dI) (ca 1) (fun j z => 0 ≤ z.toInt ∧ z.toInt ≤ 1599) n a H) (G0 : jT) (H0 : Heap) (r0 : Nat) (a1 : Int32) (a2 : Int32) : Met l yX13_copyGoal (jw yX13_copyGoal cX13_copyGoal 4 none) ({ frames := 0, cells := 0, slots := 0, locals := 0 }) (va_Pc [.ref r0, .int a1, .int a2] (fun U => U.heap = H0 ∧ jX B base G0 [] H0 ∧ jG dC dI ca base U ∧ G0 r0 = some (15, 0) ∧ jP (dC, dI) G0 H0 [] ∧ 0 ≤ a1.toInt ∧ a1.toInt ≤ 45 ∧ 0 ≤ a2.toInt ∧ a2.toInt ≤ 45)) (va_Qv (S := Unit) (fun u => True) (fun u t => jRt (dC, dI) B base G0 EX13_copyGoal H0 [] t.heap) (jA base)) 0 0 (jA base) := by
  refine Met.ofW (cc := cX13_copyGoal) (maxL := 4) (ret := none) (by decide) rfl ?_
  intro p e s m args below meth c s₁ Bd hml hv
  obtain ⟨rfl, hH0, hX, hG, hg_r0, hP0, hp0, hp1, hp2, hp3⟩ := hv
  have hK := hG.1
  have hx := Bd.exec
  have hb := Bd.bytes
  have hr := Bd.returns
  have hts := atoms_spec (ws := (jw yX13_copyGoal cX13_copyGoal 4 none)) Bd.pre
  have htw : ∀ w ∈ jWl, w.before _ s = true := fun w h => hts w (List.mem_cons_of_mem _ h)
  have hown : s.vm.findClass RX13 = some m.cls := findClass_of_methodNamed Bd.named
  have hlocks := Bd.notSynchronized
  obtain ⟨Q, hQ⟩ : ∃ Q, Q = MQ below (va_Qv (S := Unit) (fun u => True) (fun u t => jRt (dC, dI) B base G0 EX13_copyGoal H0 [] t.heap) (jA base)) ([.ref r0, .int a1, .int a2] : List Value).toArray s 0 0 (jA base) := ⟨_, rfl⟩
  rw [← hQ]
  have hl := lv_entry ([.ref r0, .int a1, .int a2]) (n := 4) (Nat.le_of_ble_eq_true rfl)
  rw [lg_entry_eq]
  generalize (lg_sl ([.ref r0, .int a1, .int a2]) ++ List.replicate (4 - (lg_sl ([.ref r0, .int a1, .int a2])).length) Slot.unset).toArray = ls at hl ⊢
  have hl : lv_has ls 4 [(0, .ref r0), (1, .int a1), (2, .int a2)] := hl
  generalize hR : (headSpec (jw yX13_copyGoal cX13_copyGoal 4 none) ({ frames := 0, cells := 0, slots := 0, locals := 0 })).room = R
  subst hH0
  have hh : jSt (dC, dI) B base G0 G0 EX13_copyGoal s.heap 0 0 [] [] [] s.heap [] := jSt.start hX hP0 jMc.nil jIs.nil
  clear hX hP0
  have hk0 : (0 : Int32).toInt = 0 := by decide
  have hk1 : (1 : Int32).toInt = 1 := by decide
  have hk6 : (6 : Int32).toInt = 6 := by decide
  have hk8 : (8 : Int32).toInt = 8 := by decide
  have hly_15_22 := htw (u_lay RX13 TX13 22) (jWc_wsX130 _ (u_in_lay (by decide)))
  have hly_15_23 := htw (u_lay RX13 TX13 23) (jWc_wsX130 _ (u_in_lay (by decide)))
  have hly_15_24 := htw (u_lay RX13 TX13 24) (jWc_wsX130 _ (u_in_lay (by decide)))
  have hly_15_25 := htw (u_lay RX13 TX13 25) (jWc_wsX130 _ (u_in_lay (by decide)))
  have hly_15_26 := htw (u_lay RX13 TX13 26) (jWc_wsX130 _ (u_in_lay (by decide)))
  have hly_15_27 := htw (u_lay RX13 TX13 27) (jWc_wsX130 _ (u_in_lay (by decide)))
  have hlk_53 := (htw (.fieldLink RX13 53 "ProofServerModel$Kernel" "goal" "[I") (jWr_14 _ (List.mem_of_getElem? (i := 22) rfl)))
  have hlk_56 := (htw (.fieldLink RX13 56 "ProofServerModel$Kernel" "vars" "[I") (jWr_14 _ (List.mem_of_getElem? (i := 23) rfl)))
  have hlk_62 := (htw (.fieldLink RX13 62 "ProofServerModel$Kernel" "hyps" "[I") (jWr_15 _ (List.mem_of_getElem? (i := 1) rfl)))
  have hlk_59 := (htw (.fieldLink RX13 59 "ProofServerModel$Kernel" "varName" "[I") (jWr_15 _ (List.mem_of_getElem? (i := 0) rfl)))
  have hlk_65 := (htw (.fieldLink RX13 65 "ProofServerModel$Kernel" "hypName" "[I") (jWr_15 _ (List.mem_of_getElem? (i := 2) rfl)))
  have hlk_68 := (htw (.fieldLink RX13 68 "ProofServerModel$Kernel" "hyp" "[I") (jWr_15 _ (List.mem_of_getElem? (i := 3) rfl)))
  have hrg_a1 := jb_rng a1
  have hrg_a2 := jb_rng a2
  refine lv_aload_n hx hb dX13_copyGoal_0 rfl (lv_at hl 0 rfl) ?_
  obtain ⟨v_1, hv_1, hh_2⟩ := hh.pin (C := RX13) (T := TX13) (N := 50) hB15 rfl (by decide) hg_r0 (i := 22) (by decide) rfl
  clear hh
  obtain ⟨goal_3, rfl, hg_goal_3⟩ := hv_1
  refine j7_read hx hb hown hK (C := RX13) (T := TX13) (N := 50) rfl hly_15_22 hlk_53 (hh_2.at 0 rfl) dX13_copyGoal_1 ?_
  refine lv_iload_n hx hb dX13_copyGoal_4 rfl (lv_at hl 2 rfl) ?_
  refine lv_aload_n hx hb dX13_copyGoal_5 rfl (lv_at hl 0 rfl) ?_
  refine j7_read hx hb hown hK (C := RX13) (T := TX13) (N := 50) rfl hly_15_22 hlk_53 (hh_2.at 0 rfl) dX13_copyGoal_6 ?_
  refine lv_iload_n hx hb dX13_copyGoal_9 rfl (lv_at hl 1 rfl) ?_
  refine j7_iald hx hb hK hh_2 hB161 1 rfl (by decide) hg_goal_3 (x := a1.toInt) (rfl) (by omega) dX13_copyGoal_10 (fun z_4 (hz_4 : 0 ≤ z_4.toInt ∧ z_4.toInt ≤ 119999) => ?_)
  refine j7_iast hx hb hK hh_2 hB hB161 1 rfl (by decide) (by decide) rfl rfl rfl hg_goal_3 (x := a2.toInt) (rfl) (by omega) (by first | omega | (refine ⟨?_, ?_⟩ <;> (first | omega | rfl | assumption | decide | exact Or.inl rfl | exact Or.inr rfl | (simp only; omega)))) dX13_copyGoal_11 (fun H_5 locs_5 hh_5 => ?_)
  clear hh_2
  refine lv_aload_n hx hb dX13_copyGoal_12 rfl (lv_at hl 0 rfl) ?_
  obtain ⟨v_6, hv_6, hh_7⟩ := hh_5.pin (C := RX13) (T := TX13) (N := 50) hB15 rfl (by decide) hg_r0 (i := 23) (by decide) rfl
  clear hh_5
  obtain ⟨vars_8, rfl, hg_vars_8⟩ := hv_6
  refine j7_read hx hb hown hK (C := RX13) (T := TX13) (N := 50) rfl hly_15_23 hlk_56 (hh_7.at 0 rfl) dX13_copyGoal_13 ?_
  refine lv_iload_n hx hb dX13_copyGoal_16 rfl (lv_at hl 2 rfl) ?_
  refine lv_aload_n hx hb dX13_copyGoal_17 rfl (lv_at hl 0 rfl) ?_
  refine j7_read hx hb hown hK (C := RX13) (T := TX13) (N := 50) rfl hly_15_23 hlk_56 (hh_7.at 0 rfl) dX13_copyGoal_18 ?_
  refine lv_iload_n hx hb dX13_copyGoal_21 rfl (lv_at hl 1 rfl) ?_
  refine j7_iald hx hb hK hh_7 hB158 1 rfl (by decide) hg_vars_8 (x := a1.toInt) (rfl) (by omega) dX13_copyGoal_22 (fun z_9 (hz_9 : 0 ≤ z_9.toInt ∧ z_9.toInt ≤ 6) => ?_)
  refine j7_iast hx hb hK hh_7 hB hB158 1 rfl (by decide) (by decide) rfl rfl rfl hg_vars_8 (x := a2.toInt) (rfl) (by omega) (by first | omega | (refine ⟨?_, ?_⟩ <;> (first | omega | rfl | assumption | decide | exact Or.inl rfl | exact Or.inr rfl | (simp only; omega)))) dX13_copyGoal_23 (fun H_10 locs_10 hh_10 => ?_)
  clear hh_7
  refine lv_aload_n hx hb dX13_copyGoal_24 rfl (lv_at hl 0 rfl) ?_
  obtain ⟨v_11, hv_11, hh_12⟩ := hh_10.pin (C := RX13) (T := TX13) (N := 50) hB15 rfl (by decide) hg_r0 (i := 25) (by decide) rfl
  clear hh_10
  obtain ⟨hyps_13, rfl, hg_hyps_13⟩ := hv_11
  refine j7_read hx hb hown hK (C := RX13) (T := TX13) (N := 50) rfl hly_15_25 hlk_62 (hh_12.at 0 rfl) dX13_copyGoal_25 ?_
  refine lv_iload_n hx hb dX13_copyGoal_28 rfl (lv_at hl 2 rfl) ?_
  refine lv_aload_n hx hb dX13_copyGoal_29 rfl (lv_at hl 0 rfl) ?_
  refine j7_read hx hb hown hK (C := RX13) (T := TX13) (N := 50) rfl hly_15_25 hlk_62 (hh_12.at 0 rfl) dX13_copyGoal_30 ?_
  refine lv_iload_n hx hb dX13_copyGoal_33 rfl (lv_at hl 1 rfl) ?_
  refine j7_iald hx hb hK hh_12 hB159 1 rfl (by decide) hg_hyps_13 (x := a1.toInt) (rfl) (by omega) dX13_copyGoal_34 (fun z_14 (hz_14 : 0 ≤ z_14.toInt ∧ z_14.toInt ≤ 8) => ?_)
  refine j7_iast hx hb hK hh_12 hB hB159 1 rfl (by decide) (by decide) rfl rfl rfl hg_hyps_13 (x := a2.toInt) (rfl) (by omega) (by first | omega | (refine ⟨?_, ?_⟩ <;> (first | omega | rfl | assumption | decide | exact Or.inl rfl | exact Or.inr rfl | (simp only; omega)))) dX13_copyGoal_35 (fun H_15 locs_15 hh_15 => ?_)
  clear hh_12
  refine lv_iconst (v := 0) hx hb dX13_copyGoal_36 (by decide) ?_
  refine lv_istore_n (lv' := [(3, .int 0), (0, .ref r0), (1, .int a1), (2, .int a2)]) hx hb dX13_copyGoal_37 rfl hl (by decide) rfl (fun ls hl => ?_)
  have L38 : ∀ (N : Nat) (v3_16 : Int32) (H_16 : Heap) (locs_16 : List Loc), jSt (dC, dI) B base G0 G0 EX13_copyGoal s.heap 0 0 [(r0, 15, 25, .ref hyps_13), (r0, 15, 23, .ref vars_8), (r0, 15, 22, .ref goal_3)] [] [] H_16 locs_16 → (0 ≤ v3_16.toInt ∧ v3_16.toInt ≤ 6) → (6 - v3_16.toInt : Int) < N → ∀ ls : Array Slot, lv_has ls 4 [(0, .ref r0), (1, .int a1), (2, .int a2), (3, .int v3_16)] → W p l e R s m ([.ref r0, .int a1, .int a2] : List Value).toArray below meth c H_16 locs_16 0 0 Q (F0 m 38 ls []) := by
    intro N
    induction N with
    | zero => intro v3_16 H_16 locs_16 hh_16  hi_16 hm; exact absurd hm (by omega)
    | succ N L38 =>
      intro v3_16 H_16 locs_16 hh_16  hi_16 hm_16 ls hl
      obtain ⟨hi_16_0, hi_16_1⟩ := hi_16
      refine lv_iload_n hx hb dX13_copyGoal_38 rfl (lv_at hl 3 rfl) ?_
      refine lv_bipush (v := 6) hx hb dX13_copyGoal_39 (by decide) ?_
      refine lv_icmp_ge (tgt := 72) hx hb dX13_copyGoal_41 (by decide) (fun c_17 => ?_) (fun c_17 => ?_)
      · skip
        have c_17' : v3_16.toInt ≥ 6 := jb_ge (rfl) ((by decide)) c_17
        refine lv_iconst (v := 0) hx hb dX13_copyGoal_72 (by decide) ?_
        refine lv_istore_n (lv' := [(3, .int 0), (0, .ref r0), (1, .int a1), (2, .int a2)]) hx hb dX13_copyGoal_73 rfl hl (by decide) rfl (fun ls hl => ?_)
        have L74 : ∀ (N : Nat) (v3_18 : Int32) (H_18 : Heap) (locs_18 : List Loc), jSt (dC, dI) B base G0 G0 EX13_copyGoal s.heap 0 0 [(r0, 15, 25, .ref hyps_13), (r0, 15, 23, .ref vars_8), (r0, 15, 22, .ref goal_3)] [] [] H_18 locs_18 → (0 ≤ v3_18.toInt ∧ v3_18.toInt ≤ 8) → (8 - v3_18.toInt : Int) < N → ∀ ls : Array Slot, lv_has ls 4 [(0, .ref r0), (1, .int a1), (2, .int a2), (3, .int v3_18)] → W p l e R s m ([.ref r0, .int a1, .int a2] : List Value).toArray below meth c H_18 locs_18 0 0 Q (F0 m 74 ls []) := by
          intro N
          induction N with
          | zero => intro v3_18 H_18 locs_18 hh_18  hi_18 hm; exact absurd hm (by omega)
          | succ N L74 =>
            intro v3_18 H_18 locs_18 hh_18  hi_18 hm_18 ls hl
            obtain ⟨hi_18_0, hi_18_1⟩ := hi_18
            refine lv_iload_n hx hb dX13_copyGoal_74 rfl (lv_at hl 3 rfl) ?_
            refine lv_bipush (v := 8) hx hb dX13_copyGoal_75 (by decide) ?_
            refine lv_icmp_ge (tgt := 130) hx hb dX13_copyGoal_77 (by decide) (fun c_19 => ?_) (fun c_19 => ?_)
            · skip
              have c_19' : v3_18.toInt ≥ 8 := jb_ge (rfl) ((by decide)) c_19
              rw [hQ]
              exact W.vret hx hb hr (fun t ht hW => ⟨⟨(), rfl, trivial, hh_18.rt (M1 := []) [] rfl ht⟩, by rw [ht]; try exact hh_18.1.1, fun q h9 hq => by rw [ht]; try exact hh_18.1.2.1 q h9 hq⟩) hh_18.1.2.2 dX13_copyGoal_130
            · skip
              have c_19' : v3_18.toInt < 8 := jb_ge_n (rfl) ((by decide)) c_19
              refine lv_aload_n hx hb dX13_copyGoal_80 rfl (lv_at hl 0 rfl) ?_
              obtain ⟨v_20, hv_20, hh_21⟩ := hh_18.pin (C := RX13) (T := TX13) (N := 50) hB15 rfl (by decide) hg_r0 (i := 26) (by decide) rfl
              clear hh_18
              obtain ⟨hypName_22, rfl, hg_hypName_22⟩ := hv_20
              refine j7_read hx hb hown hK (C := RX13) (T := TX13) (N := 50) rfl hly_15_26 hlk_65 (hh_21.at 0 rfl) dX13_copyGoal_81 ?_
              refine lv_bipush (v := 8) hx hb dX13_copyGoal_84 (by decide) ?_
              refine lv_iload_n hx hb dX13_copyGoal_86 rfl (lv_at hl 2 rfl) ?_
              refine lv_imul hx hb dX13_copyGoal_87 ?_
              refine lv_topi (fun z_23 ez_23 => ?_)
              have hz_23 : z_23.toInt = 8 * a2.toInt := by rw [ez_23]; exact jb_imul2 ((by decide)) (rfl) (by omega)
              refine lv_iload_n hx hb dX13_copyGoal_88 rfl (lv_at hl 3 rfl) ?_
              refine lv_iadd hx hb dX13_copyGoal_89 ?_
              refine lv_topi (fun z_24 ez_24 => ?_)
              have hz_24 : z_24.toInt = z_23.toInt + v3_18.toInt := by rw [ez_24]; exact jb_iadd2 (rfl) (rfl) (by omega)
              refine lv_aload_n hx hb dX13_copyGoal_90 rfl (lv_at hl 0 rfl) ?_
              refine j7_read hx hb hown hK (C := RX13) (T := TX13) (N := 50) rfl hly_15_26 hlk_65 (hh_21.at 0 rfl) dX13_copyGoal_91 ?_
              refine lv_bipush (v := 8) hx hb dX13_copyGoal_94 (by decide) ?_
              refine lv_iload_n hx hb dX13_copyGoal_96 rfl (lv_at hl 1 rfl) ?_
              refine lv_imul hx hb dX13_copyGoal_97 ?_
              refine lv_topi (fun z_25 ez_25 => ?_)
              have hz_25 : z_25.toInt = 8 * a1.toInt := by rw [ez_25]; exact jb_imul2 ((by decide)) (rfl) (by omega)
              refine lv_iload_n hx hb dX13_copyGoal_98 rfl (lv_at hl 3 rfl) ?_
              refine lv_iadd hx hb dX13_copyGoal_99 ?_
              refine lv_topi (fun z_26 ez_26 => ?_)
              have hz_26 : z_26.toInt = z_25.toInt + v3_18.toInt := by rw [ez_26]; exact jb_iadd2 (rfl) (rfl) (by omega)
              refine j7_iald hx hb hK hh_21 hB163 1 rfl (by decide) hg_hypName_22 (x := z_26.toInt) (rfl) (by omega) dX13_copyGoal_100 (fun z_27 (hz_27 : 0 ≤ z_27.toInt ∧ z_27.toInt ≤ 1599) => ?_)
              refine j7_iast hx hb hK hh_21 hB hB163 1 rfl (by decide) (by decide) rfl rfl rfl hg_hypName_22 (x := z_24.toInt) (rfl) (by omega) (by first | omega | (refine ⟨?_, ?_⟩ <;> (first | omega | rfl | assumption | decide | exact Or.inl rfl | exact Or.inr rfl | (simp only; omega)))) dX13_copyGoal_101 (fun H_28 locs_28 hh_28 => ?_)
              clear hh_21
              refine lv_aload_n hx hb dX13_copyGoal_102 rfl (lv_at hl 0 rfl) ?_
              obtain ⟨v_29, hv_29, hh_30⟩ := hh_28.pin (C := RX13) (T := TX13) (N := 50) hB15 rfl (by decide) hg_r0 (i := 27) (by decide) rfl
              clear hh_28
              obtain ⟨hyp_31, rfl, hg_hyp_31⟩ := hv_29
              refine j7_read hx hb hown hK (C := RX13) (T := TX13) (N := 50) rfl hly_15_27 hlk_68 (hh_30.at 0 rfl) dX13_copyGoal_103 ?_
              refine lv_bipush (v := 8) hx hb dX13_copyGoal_106 (by decide) ?_
              refine lv_iload_n hx hb dX13_copyGoal_108 rfl (lv_at hl 2 rfl) ?_
              refine lv_imul hx hb dX13_copyGoal_109 ?_
              refine lv_topi (fun z_32 ez_32 => ?_)
              have hz_32 : z_32.toInt = 8 * a2.toInt := by rw [ez_32]; exact jb_imul2 ((by decide)) (rfl) (by omega)
              refine lv_iload_n hx hb dX13_copyGoal_110 rfl (lv_at hl 3 rfl) ?_
              refine lv_iadd hx hb dX13_copyGoal_111 ?_
              refine lv_topi (fun z_33 ez_33 => ?_)
              have hz_33 : z_33.toInt = z_32.toInt + v3_18.toInt := by rw [ez_33]; exact jb_iadd2 (rfl) (rfl) (by omega)
              refine lv_aload_n hx hb dX13_copyGoal_112 rfl (lv_at hl 0 rfl) ?_
              refine j7_read hx hb hown hK (C := RX13) (T := TX13) (N := 50) rfl hly_15_27 hlk_68 (hh_30.at 0 rfl) dX13_copyGoal_113 ?_
              refine lv_bipush (v := 8) hx hb dX13_copyGoal_116 (by decide) ?_
              refine lv_iload_n hx hb dX13_copyGoal_118 rfl (lv_at hl 1 rfl) ?_
              refine lv_imul hx hb dX13_copyGoal_119 ?_
              refine lv_topi (fun z_34 ez_34 => ?_)
              have hz_34 : z_34.toInt = 8 * a1.toInt := by rw [ez_34]; exact jb_imul2 ((by decide)) (rfl) (by omega)
              refine lv_iload_n hx hb dX13_copyGoal_120 rfl (lv_at hl 3 rfl) ?_
              refine lv_iadd hx hb dX13_copyGoal_121 ?_
              refine lv_topi (fun z_35 ez_35 => ?_)
              have hz_35 : z_35.toInt = z_34.toInt + v3_18.toInt := by rw [ez_35]; exact jb_iadd2 (rfl) (rfl) (by omega)
              refine j7_iald hx hb hK hh_30 hB162 1 rfl (by decide) hg_hyp_31 (x := z_35.toInt) (rfl) (by omega) dX13_copyGoal_122 (fun z_36 (hz_36 : 0 ≤ z_36.toInt ∧ z_36.toInt ≤ 119999) => ?_)
              refine j7_iast hx hb hK hh_30 hB hB162 1 rfl (by decide) (by decide) rfl rfl rfl hg_hyp_31 (x := z_33.toInt) (rfl) (by omega) (by first | omega | (refine ⟨?_, ?_⟩ <;> (first | omega | rfl | assumption | decide | exact Or.inl rfl | exact Or.inr rfl | (simp only; omega)))) dX13_copyGoal_123 (fun H_37 locs_37 hh_37 => ?_)
              clear hh_30
              obtain ⟨z_38, ez_38⟩ : ∃ y : Int32, y = v3_18 + 1 := ⟨_, rfl⟩
              refine lv_iinc (v := z_38) (lv' := [(3, .int z_38), (0, .ref r0), (1, .int a1), (2, .int a2)]) hx hb dX13_copyGoal_124 hl (k := 3) rfl (by rw [ez_38]; rfl) (by decide) rfl (fun ls hl => ?_)
              have hz_38 : z_38.toInt = v3_18.toInt + 1 := by rw [ez_38]; exact jb_iadd2 (rfl) (by decide) (by omega)
              refine lv_goto (tgt := 74) hx hb dX13_copyGoal_127 (by decide) ?_
              exact L74 z_38 _ _ (hh_37.sub (L1 := [(r0, 15, 25, .ref hyps_13), (r0, 15, 23, .ref vars_8), (r0, 15, 22, .ref goal_3)]) [2, 3, 4] rfl (M1 := []) [] rfl (I1 := []) [] rfl) (by first | omega | (refine ⟨?_, ?_⟩ <;> (first | omega | rfl | assumption | decide | exact Or.inl rfl | exact Or.inr rfl | (simp only; omega)))) (by omega) _ (lv_sub hl [1, 2, 3, 0] rfl)
        exact L74 (8 - (0 : Int32).toInt : Int).toNat.succ 0 _ _ hh_16 (by first | omega | (refine ⟨?_, ?_⟩ <;> (first | omega | rfl | assumption | decide | exact Or.inl rfl | exact Or.inr rfl | (simp only; omega)))) (by omega) _ (lv_sub hl [1, 2, 3, 0] rfl)
      · skip
        have c_17' : v3_16.toInt < 6 := jb_ge_n (rfl) ((by decide)) c_17
        refine lv_aload_n hx hb dX13_copyGoal_44 rfl (lv_at hl 0 rfl) ?_
        obtain ⟨v_39, hv_39, hh_40⟩ := hh_16.pin (C := RX13) (T := TX13) (N := 50) hB15 rfl (by decide) hg_r0 (i := 24) (by decide) rfl
        clear hh_16
        obtain ⟨varName_41, rfl, hg_varName_41⟩ := hv_39
        refine j7_read hx hb hown hK (C := RX13) (T := TX13) (N := 50) rfl hly_15_24 hlk_59 (hh_40.at 0 rfl) dX13_copyGoal_45 ?_
        refine lv_bipush (v := 6) hx hb dX13_copyGoal_48 (by decide) ?_
        refine lv_iload_n hx hb dX13_copyGoal_50 rfl (lv_at hl 2 rfl) ?_
        refine lv_imul hx hb dX13_copyGoal_51 ?_
        refine lv_topi (fun z_42 ez_42 => ?_)
        have hz_42 : z_42.toInt = 6 * a2.toInt := by rw [ez_42]; exact jb_imul2 ((by decide)) (rfl) (by omega)
        refine lv_iload_n hx hb dX13_copyGoal_52 rfl (lv_at hl 3 rfl) ?_
        refine lv_iadd hx hb dX13_copyGoal_53 ?_
        refine lv_topi (fun z_43 ez_43 => ?_)
        have hz_43 : z_43.toInt = z_42.toInt + v3_16.toInt := by rw [ez_43]; exact jb_iadd2 (rfl) (rfl) (by omega)
        refine lv_aload_n hx hb dX13_copyGoal_54 rfl (lv_at hl 0 rfl) ?_
        refine j7_read hx hb hown hK (C := RX13) (T := TX13) (N := 50) rfl hly_15_24 hlk_59 (hh_40.at 0 rfl) dX13_copyGoal_55 ?_
        refine lv_bipush (v := 6) hx hb dX13_copyGoal_58 (by decide) ?_
        refine lv_iload_n hx hb dX13_copyGoal_60 rfl (lv_at hl 1 rfl) ?_
        refine lv_imul hx hb dX13_copyGoal_61 ?_
        refine lv_topi (fun z_44 ez_44 => ?_)
        have hz_44 : z_44.toInt = 6 * a1.toInt := by rw [ez_44]; exact jb_imul2 ((by decide)) (rfl) (by omega)
        refine lv_iload_n hx hb dX13_copyGoal_62 rfl (lv_at hl 3 rfl) ?_
        refine lv_iadd hx hb dX13_copyGoal_63 ?_
        refine lv_topi (fun z_45 ez_45 => ?_)
        have hz_45 : z_45.toInt = z_44.toInt + v3_16.toInt := by rw [ez_45]; exact jb_iadd2 (rfl) (rfl) (by omega)
        refine j7_iald hx hb hK hh_40 hB163 1 rfl (by decide) hg_varName_41 (x := z_45.toInt) (rfl) (by omega) dX13_copyGoal_64 (fun z_46 (hz_46 : 0 ≤ z_46.toInt ∧ z_46.toInt ≤ 1599) => ?_)
        refine j7_iast hx hb hK hh_40 hB hB163 1 rfl (by decide) (by decide) rfl rfl rfl hg_varName_41 (x := z_43.toInt) (rfl) (by omega) (by first | omega | (refine ⟨?_, ?_⟩ <;> (first | omega | rfl | assumption | decide | exact Or.inl rfl | exact Or.inr rfl | (simp only; omega)))) dX13_copyGoal_65 (fun H_47 locs_47 hh_47 => ?_)
        clear hh_40
        obtain ⟨z_48, ez_48⟩ : ∃ y : Int32, y = v3_16 + 1 := ⟨_, rfl⟩
        refine lv_iinc (v := z_48) (lv' := [(3, .int z_48), (0, .ref r0), (1, .int a1), (2, .int a2)]) hx hb dX13_copyGoal_66 hl (k := 3) rfl (by rw [ez_48]; rfl) (by decide) rfl (fun ls hl => ?_)
        have hz_48 : z_48.toInt = v3_16.toInt + 1 := by rw [ez_48]; exact jb_iadd2 (rfl) (by decide) (by omega)
        refine lv_goto (tgt := 38) hx hb dX13_copyGoal_69 (by decide) ?_
        exact L38 z_48 _ _ (hh_47.sub (L1 := [(r0, 15, 25, .ref hyps_13), (r0, 15, 23, .ref vars_8), (r0, 15, 22, .ref goal_3)]) [1, 2, 3] rfl (M1 := []) [] rfl (I1 := []) [] rfl) (by first | omega | (refine ⟨?_, ?_⟩ <;> (first | omega | rfl | assumption | decide | exact Or.inl rfl | exact Or.inr rfl | (simp only; omega)))) (by omega) _ (lv_sub hl [1, 2, 3, 0] rfl)
  exact L38 (6 - (0 : Int32).toInt : Int).toNat.succ 0 _ _ hh_15 (by first | omega | (refine ⟨?_, ?_⟩ <;> (first | omega | rfl | assumption | decide | exact Or.inl rfl | exact Or.inr rfl | (simp only; omega)))) (by omega) _ (lv_sub hl [1, 2, 3, 0] rfl)
set_option maxHeartbeats 4000000 in
set_option maxRecDepth 20000 in
theorem uX13_times (l : Launch) (dC : Nat → ClassId) (dI : Nat → Nat → Nat) (ca : Nat → ClassId) (base : Nat) (B : jF) (hB : jBok B) (hAp : jAp (dC, dI)) (hB15 : ∀ n G a H, B 15 n G a H ↔ jOb (dC, dI) 15 50 (F15 n G) a H) (hB158 : ∀ n G a H, B 158 n G a H ↔ jAr (dC, dI) (ca 1) (fun j z => 0 ≤ z.toInt ∧ z.toInt ≤ 6) n a H) (hB159 : ∀ n G a H, B 159 n G a H ↔ jAr (dC, dI) (ca 1) (fun j z => 0 ≤ z.toInt ∧ z.toInt ≤ 8) n a H) (hB161 : ∀ n G a H, B 161 n G a H ↔ jAr (dC, dI) (ca 1) (fun j z => 0 ≤ z.toInt ∧ z.toInt ≤ 119999) n a H) (hB162 : ∀ n G a H, B 162 n G a H ↔ jAr (dC, dI) (ca 1) (fun j z => 0 ≤ z.toInt ∧ z.toInt ≤ 119999) n a H) (hB163 : ∀ n G a H, B 163 n G a H ↔ jAr (dC, dI) (ca 1) (fun j z => 0 ≤ z.toInt ∧ z.toInt ≤ 1599) n a H) (G0 : jT) (H0 : Heap) (r0 : Nat) (a1 : Int32) (pg : Int32) : Met l yX13_times (jw yX13_times cX13_times 3 none) ({ frames := 1, cells := 0, slots := 0, locals := 23 }) (va_Pc [.ref r0, .int a1] (fun U => U.heap = H0 ∧ jX B base G0 [] H0 ∧ jG dC dI ca base U ∧ G0 r0 = some (15, 0) ∧ jP (dC, dI) G0 H0 [(r0, 15, 21, .int pg)] ∧ 1 ≤ pg.toInt ∧ pg.toInt ≤ 6 ∧ 0 ≤ a1.toInt ∧ a1.toInt ≤ 1000)) (va_Qv (S := Unit) (fun u => True) (fun u t => jRt (dC, dI) B base G0 EX13_times H0 [] t.heap) (jA base)) 0 0 (jA base) := by
  refine Met.ofW (cc := cX13_times) (maxL := 3) (ret := none) (by decide) rfl ?_
  intro p e s m args below meth c s₁ Bd hml hv
  obtain ⟨rfl, hH0, hX, hG, hg_r0, hP0, hp0, hp1, hp2, hp3⟩ := hv
  have hK := hG.1
  have hx := Bd.exec
  have hb := Bd.bytes
  have hr := Bd.returns
  have hts := atoms_spec (ws := (jw yX13_times cX13_times 3 none)) Bd.pre
  have htw : ∀ w ∈ jWl, w.before _ s = true := fun w h => hts w (List.mem_cons_of_mem _ h)
  have hown : s.vm.findClass RX13 = some m.cls := findClass_of_methodNamed Bd.named
  have hlocks := Bd.notSynchronized
  obtain ⟨Q, hQ⟩ : ∃ Q, Q = MQ below (va_Qv (S := Unit) (fun u => True) (fun u t => jRt (dC, dI) B base G0 EX13_times H0 [] t.heap) (jA base)) ([.ref r0, .int a1] : List Value).toArray s 0 0 (jA base) := ⟨_, rfl⟩
  rw [← hQ]
  have hl := lv_entry ([.ref r0, .int a1]) (n := 3) (Nat.le_of_ble_eq_true rfl)
  rw [lg_entry_eq]
  generalize (lg_sl ([.ref r0, .int a1]) ++ List.replicate (3 - (lg_sl ([.ref r0, .int a1])).length) Slot.unset).toArray = ls at hl ⊢
  have hl : lv_has ls 3 [(0, .ref r0), (1, .int a1)] := hl
  generalize hR : (headSpec (jw yX13_times cX13_times 3 none) ({ frames := 1, cells := 0, slots := 0, locals := 23 })).room = R
  subst hH0
  have hh : jSt (dC, dI) B base G0 G0 EX13_times s.heap 0 0 [(r0, 15, 21, .int pg)] [] [] s.heap [] := jSt.start hX hP0 jMc.nil jIs.nil
  clear hX hP0
  have hk0 : (0 : Int32).toInt = 0 := by decide
  have hk1 : (1 : Int32).toInt = 1 := by decide
  have hk6 : (6 : Int32).toInt = 6 := by decide
  have hk9 : (9 : Int32).toInt = 9 := by decide
  have hly_15_21 := htw (u_lay RX13 TX13 21) (jWc_wsX130 _ (u_in_lay (by decide)))
  have hly_15_34 := htw (u_lay RX13 TX13 34) (jWc_wsX130 _ (u_in_lay (by decide)))
  have hlk_119 := (htw (.fieldLink RX13 119 "ProofServerModel$Kernel" "goals" "I") (jWr_59 _ (List.mem_of_getElem? (i := 20) rfl)))
  have hlk_221 := (htw (.fieldLink RX13 221 "ProofServerModel$Kernel" "fault" "I") (jWr_60 _ (List.mem_of_getElem? (i := 3) rfl)))
  have hrg_a1 := jb_rng a1
  refine lv_aload_n hx hb dX13_times_0 rfl (lv_at hl 0 rfl) ?_
  refine j7_read hx hb hown hK (C := RX13) (T := TX13) (N := 50) rfl hly_15_21 hlk_119 (hh.at 0 rfl) dX13_times_1 ?_
  refine lv_iconst (v := 1) hx hb dX13_times_4 (by decide) ?_
  refine lv_isub hx hb dX13_times_5 ?_
  refine lv_topi (fun z_1 ez_1 => ?_)
  have hz_1 : z_1.toInt = pg.toInt - 1 := by rw [ez_1]; exact jb_isub2 (rfl) ((by decide)) (by omega)
  refine lv_iload_n hx hb dX13_times_6 rfl (lv_at hl 1 rfl) ?_
  refine lv_iadd hx hb dX13_times_7 ?_
  refine lv_topi (fun z_2 ez_2 => ?_)
  have hz_2 : z_2.toInt = z_1.toInt + a1.toInt := by rw [ez_2]; exact jb_iadd2 (rfl) (rfl) (by omega)
  refine lv_bipush (v := 6) hx hb dX13_times_8 (by decide) ?_
  refine lv_icmp_le (tgt := 19) hx hb dX13_times_10 (by decide) (fun c_3 => ?_) (fun c_3 => ?_)
  · skip
    have c_3' : z_2.toInt ≤ 6 := jb_le (rfl) ((by decide)) c_3
    refine lv_aload_n hx hb dX13_times_19 rfl (lv_at hl 0 rfl) ?_
    obtain ⟨v_4, hv_4, hh_5⟩ := hh.pin (C := RX13) (T := TX13) (N := 50) hB15 rfl (by decide) hg_r0 (i := 34) (by decide) rfl
    clear hh
    obtain ⟨fault_6, rfl, hlofault_6, hhifault_6⟩ := hv_4
    refine j7_read hx hb hown hK (C := RX13) (T := TX13) (N := 50) rfl hly_15_34 hlk_221 (hh_5.at 0 rfl) dX13_times_20 ?_
    refine lv_if_le (tgt := 27) hx hb dX13_times_23 (by decide) (fun c_7 => ?_) (fun c_7 => ?_)
    · skip
      have c_7' : fault_6.toInt ≤ 0 := jb_le (rfl) ((by decide)) c_7
      refine lv_iload_n hx hb dX13_times_27 rfl (lv_at hl 1 rfl) ?_
      have C57 : ∀ (H_8 : Heap) (locs_8 : List Loc), jSt (dC, dI) B base G0 G0 EX13_times s.heap 0 0 [(r0, 15, 34, .int fault_6), (r0, 15, 21, .int pg)] [] [] H_8 locs_8 → (True) → ∀ ls : Array Slot, lv_has ls 3 [(0, .ref r0), (1, .int a1)] → W p l e R s m ([.ref r0, .int a1] : List Value).toArray below meth c H_8 locs_8 0 0 Q (F0 m 57 ls []) := by
        intro  H_8 locs_8 hh_8  hi_8 ls hl
        refine lv_aload_n hx hb dX13_times_57 rfl (lv_at hl 0 rfl) ?_
        refine j7_read hx hb hown hK (C := RX13) (T := TX13) (N := 50) rfl hly_15_21 hlk_119 (hh_8.at 1 rfl) dX13_times_58 ?_
        refine lv_iconst (v := 1) hx hb dX13_times_61 (by decide) ?_
        refine lv_isub hx hb dX13_times_62 ?_
        refine lv_topi (fun z_9 ez_9 => ?_)
        have hz_9 : z_9.toInt = pg.toInt - 1 := by rw [ez_9]; exact jb_isub2 (rfl) ((by decide)) (by omega)
        refine lv_istore_n (lv' := [(2, .int z_9), (0, .ref r0), (1, .int a1)]) hx hb dX13_times_63 rfl hl (by decide) rfl (fun ls hl => ?_)
        have L64 : ∀ (N : Nat) (v2_10 : Int32) (H_10 : Heap) (locs_10 : List Loc), jSt (dC, dI) B base G0 G0 EX13_times s.heap 0 0 [(r0, 15, 34, .int fault_6), (r0, 15, 21, .int pg)] [] [] H_10 locs_10 → (0 ≤ v2_10.toInt ∧ v2_10.toInt ≤ 5) → (v2_10.toInt : Int) < N → ∀ ls : Array Slot, lv_has ls 3 [(0, .ref r0), (1, .int a1), (2, .int v2_10)] → W p l e R s m ([.ref r0, .int a1] : List Value).toArray below meth c H_10 locs_10 0 0 Q (F0 m 64 ls []) := by
          intro N
          induction N with
          | zero => intro v2_10 H_10 locs_10 hh_10  hi_10 hm; exact absurd hm (by omega)
          | succ N L64 =>
            intro v2_10 H_10 locs_10 hh_10  hi_10 hm_10 ls hl
            obtain ⟨hi_10_0, hi_10_1⟩ := hi_10
            refine lv_iload_n hx hb dX13_times_64 rfl (lv_at hl 2 rfl) ?_
            have C88 : ∀ (v2_11 : Int32) (H_11 : Heap) (locs_11 : List Loc), jSt (dC, dI) B base G0 G0 EX13_times s.heap 0 0 [(r0, 15, 34, .int fault_6), (r0, 15, 21, .int pg)] [] [] H_11 locs_11 → (True) → ∀ ls : Array Slot, lv_has ls 3 [(0, .ref r0), (1, .int a1), (2, .int v2_11)] → W p l e R s m ([.ref r0, .int a1] : List Value).toArray below meth c H_11 locs_11 0 0 Q (F0 m 88 ls []) := by
              intro v2_11 H_11 locs_11 hh_11  hi_11 ls hl
              refine lv_iconst (v := 1) hx hb dX13_times_88 (by decide) ?_
              refine lv_istore_n (lv' := [(2, .int 1), (0, .ref r0), (1, .int a1)]) hx hb dX13_times_89 rfl hl (by decide) rfl (fun ls hl => ?_)
              have L90 : ∀ (N : Nat) (v2_12 : Int32) (H_12 : Heap) (locs_12 : List Loc), jSt (dC, dI) B base G0 G0 EX13_times s.heap 0 0 [(r0, 15, 34, .int fault_6), (r0, 15, 21, .int pg)] [] [] H_12 locs_12 → (1 ≤ v2_12.toInt ∧ v2_12.toInt ≤ 1001) → (((a1.toInt - v2_12.toInt).toNat : Int) : Int) < N → ∀ ls : Array Slot, lv_has ls 3 [(0, .ref r0), (1, .int a1), (2, .int v2_12)] → W p l e R s m ([.ref r0, .int a1] : List Value).toArray below meth c H_12 locs_12 0 0 Q (F0 m 90 ls []) := by
                intro N
                induction N with
                | zero => intro v2_12 H_12 locs_12 hh_12  hi_12 hm; exact absurd hm (by omega)
                | succ N L90 =>
                  intro v2_12 H_12 locs_12 hh_12  hi_12 hm_12 ls hl
                  obtain ⟨hi_12_0, hi_12_1⟩ := hi_12
                  refine lv_iload_n hx hb dX13_times_90 rfl (lv_at hl 2 rfl) ?_
                  refine lv_iload_n hx hb dX13_times_91 rfl (lv_at hl 1 rfl) ?_
                  refine lv_icmp_ge (tgt := 107) hx hb dX13_times_92 (by decide) (fun c_13 => ?_) (fun c_13 => ?_)
                  · skip
                    have c_13' : v2_12.toInt ≥ a1.toInt := jb_ge (rfl) (rfl) c_13
                    refine lv_aload_n hx hb dX13_times_107 rfl (lv_at hl 0 rfl) ?_
                    refine lv_dup hx hb dX13_times_108 rfl ?_
                    refine j7_read hx hb hown hK (C := RX13) (T := TX13) (N := 50) rfl hly_15_21 hlk_119 (hh_12.at 1 rfl) dX13_times_109 ?_
                    refine lv_iload_n hx hb dX13_times_112 rfl (lv_at hl 1 rfl) ?_
                    refine lv_iconst (v := 1) hx hb dX13_times_113 (by decide) ?_
                    refine lv_isub hx hb dX13_times_114 ?_
                    refine lv_topi (fun z_14 ez_14 => ?_)
                    have hz_14 : z_14.toInt = a1.toInt - 1 := by rw [ez_14]; exact jb_isub2 (rfl) ((by decide)) (by omega)
                    refine lv_iadd hx hb dX13_times_115 ?_
                    refine lv_topi (fun z_15 ez_15 => ?_)
                    have hz_15 : z_15.toInt = pg.toInt + z_14.toInt := by rw [ez_15]; exact jb_iadd2 (rfl) (rfl) (by omega)
                    refine j7_put hx hb hown hK hh_12 hB hAp hB15 (C := RX13) (T := TX13) (N := 50) rfl (by decide) hg_r0 (i := 21) (by decide) hly_15_21 rfl hlk_119 rfl (ty := .int) (v := .int z_15) (by decide +kernel) rfl rfl (⟨_, rfl, by omega, by omega⟩) rfl (L1 := [(r0, 15, 34, .int fault_6)]) [0] rfl rfl rfl dX13_times_116 (fun H_16 locs_16 hh_16 => ?_)
                    clear hh_12
                    rw [hQ]
                    exact W.vret hx hb hr (fun t ht hW => ⟨⟨(), rfl, trivial, hh_16.rt (M1 := []) [] rfl ht⟩, by rw [ht]; try exact hh_16.1.1, fun q h9 hq => by rw [ht]; try exact hh_16.1.2.1 q h9 hq⟩) hh_16.1.2.2 dX13_times_119
                  · skip
                    have c_13' : v2_12.toInt < a1.toInt := jb_ge_n (rfl) (rfl) c_13
                    refine lv_aload_n hx hb dX13_times_95 rfl (lv_at hl 0 rfl) ?_
                    refine lv_iconst (v := 0) hx hb dX13_times_96 (by decide) ?_
                    refine lv_iload_n hx hb dX13_times_97 rfl (lv_at hl 2 rfl) ?_
                    refine va_callv (A0 := jA base) (H0 := s.heap) (va_runV (As := [.int 0, .int v2_12]) (rest := []) ⟨hx, hb, hml, hown, hts⟩ (uX13_copyGoal l dC dI ca base B hB hAp hB15 hB158 hB159 hB161 hB162 hB163 G0 H_12 r0 0 v2_12) (cwV 2 hts (jgV (jWr_67 _ (List.mem_of_getElem? (i := 23) rfl)) (jWr_68 _ (List.mem_of_getElem? (i := 0) rfl)) (jWr_68 _ (List.mem_of_getElem? (i := 1) rfl)) (jWr_12 _ (List.mem_of_getElem? (i := 12) rfl)) (jWr_68 _ (List.mem_of_getElem? (i := 2) rfl))) rfl rfl rfl (by decide +kernel) ⟨by rw [← hR]; exact Nat.le_of_ble_eq_true rfl, by rw [← hR]; exact Nat.le_of_ble_eq_true rfl⟩) ⟨fun a U g mk q => by obtain ⟨q0, q1, q2, qK, q10, q11, q12⟩ := q; exact ⟨q0, q1, q2, jG.calling g mk a qK, q10, q11, q12⟩, hh_12.recv (C := RX13) (T := TX13) (N := 50) hB15 rfl (by decide) hg_r0 hK, fun U hU hW => ⟨rfl, hU, hh_12.2.1, hG.step hW hU hh_12.1, hg_r0, jP.nil, by first | omega | (refine ⟨?_, ?_, ?_, ?_⟩ <;> (first | omega | rfl | assumption | decide | exact Or.inl rfl | exact Or.inr rfl | (simp only; omega)))⟩⟩ rfl rfl hl.1 rfl (lv_room (Nat.le_of_ble_eq_true rfl)) dX13_times_98 ⟨Nat.zero_le _, Nat.zero_le _⟩) hh_12.1 (fun q _ h => h) (fun q h => h) (fun u_17 t_17 H_17 locs_17 ht_17 hvm_17 hr_18 hb_17 hz_17 hk_17 hS_17 => ?_)
                    rw [ht_17] at hb_17
                    obtain ⟨hb_171, hb_172, hb_173, hb_174, hb_175⟩ := hb_17
                    have hh_17 : jSt (dC, dI) B base G0 G0 EX13_times s.heap 0 0 [(r0, 15, 34, .int fault_6), (r0, 15, 21, .int pg)] [] [] H_17 locs_17 := ((hh_12.call hb_171 hb_172 hb_173 hb_174 hS_17 rfl (L1 := [(r0, 15, 34, .int fault_6), (r0, 15, 21, .int pg)]) [0, 1] rfl rfl (M1 := []) [] rfl rfl (I1 := []) [] rfl rfl).more hb_175)
                    clear hh_12 ht_17 hvm_17 hz_17 hk_17 hS_17 hb_171 hb_172 hb_173 hb_174 hb_175
                    obtain ⟨z_19, ez_19⟩ : ∃ y : Int32, y = v2_12 + 1 := ⟨_, rfl⟩
                    refine lv_iinc (v := z_19) (lv' := [(2, .int z_19), (0, .ref r0), (1, .int a1)]) hx hb dX13_times_101 hl (k := 2) rfl (by rw [ez_19]; rfl) (by decide) rfl (fun ls hl => ?_)
                    have hz_19 : z_19.toInt = v2_12.toInt + 1 := by rw [ez_19]; exact jb_iadd2 (rfl) (by decide) (by omega)
                    refine lv_goto (tgt := 90) hx hb dX13_times_104 (by decide) ?_
                    exact L90 z_19 _ _ hh_17 (by first | omega | (refine ⟨?_, ?_⟩ <;> (first | omega | rfl | assumption | decide | exact Or.inl rfl | exact Or.inr rfl | (simp only; omega)))) (by omega) _ (lv_sub hl [1, 2, 0] rfl)
              exact L90 (((a1.toInt - (1 : Int32).toInt).toNat : Int) : Int).toNat.succ 1 _ _ hh_11 (by first | omega | (refine ⟨?_, ?_⟩ <;> (first | omega | rfl | assumption | decide | exact Or.inl rfl | exact Or.inr rfl | (simp only; omega)))) (by omega) _ (lv_sub hl [1, 2, 0] rfl)
            refine lv_if_le (tgt := 88) hx hb dX13_times_65 (by decide) (fun c_20 => ?_) (fun c_20 => ?_)
            · skip
              have c_20' : v2_10.toInt ≤ 0 := jb_le (rfl) ((by decide)) c_20
              exact C88 v2_10 _ _ hh_10 (trivial) _ (lv_sub hl [0, 1, 2] rfl)
            · skip
              have c_20' : v2_10.toInt > 0 := jb_le_n (rfl) ((by decide)) c_20
              refine lv_iload_n hx hb dX13_times_68 rfl (lv_at hl 1 rfl) ?_
              refine lv_if_le (tgt := 88) hx hb dX13_times_69 (by decide) (fun c_21 => ?_) (fun c_21 => ?_)
              · skip
                have c_21' : a1.toInt ≤ 0 := jb_le (rfl) ((by decide)) c_21
                exact C88 v2_10 _ _ hh_10 (trivial) _ (lv_sub hl [0, 1, 2] rfl)
              · skip
                have c_21' : a1.toInt > 0 := jb_le_n (rfl) ((by decide)) c_21
                refine lv_aload_n hx hb dX13_times_72 rfl (lv_at hl 0 rfl) ?_
                refine lv_iload_n hx hb dX13_times_73 rfl (lv_at hl 2 rfl) ?_
                refine lv_iload_n hx hb dX13_times_74 rfl (lv_at hl 2 rfl) ?_
                refine lv_iload_n hx hb dX13_times_75 rfl (lv_at hl 1 rfl) ?_
                refine lv_iadd hx hb dX13_times_76 ?_
                refine lv_topi (fun z_22 ez_22 => ?_)
                have hz_22 : z_22.toInt = v2_10.toInt + a1.toInt := by rw [ez_22]; exact jb_iadd2 (rfl) (rfl) (by omega)
                refine lv_iconst (v := 1) hx hb dX13_times_77 (by decide) ?_
                refine lv_isub hx hb dX13_times_78 ?_
                refine lv_topi (fun z_23 ez_23 => ?_)
                have hz_23 : z_23.toInt = z_22.toInt - 1 := by rw [ez_23]; exact jb_isub2 (rfl) ((by decide)) (by omega)
                refine va_callv (A0 := jA base) (H0 := s.heap) (va_runV (As := [.int v2_10, .int z_23]) (rest := []) ⟨hx, hb, hml, hown, hts⟩ (uX13_copyGoal l dC dI ca base B hB hAp hB15 hB158 hB159 hB161 hB162 hB163 G0 H_10 r0 v2_10 z_23) (cwV 2 hts (jgV (jWr_67 _ (List.mem_of_getElem? (i := 23) rfl)) (jWr_68 _ (List.mem_of_getElem? (i := 0) rfl)) (jWr_68 _ (List.mem_of_getElem? (i := 1) rfl)) (jWr_12 _ (List.mem_of_getElem? (i := 12) rfl)) (jWr_68 _ (List.mem_of_getElem? (i := 2) rfl))) rfl rfl rfl (by decide +kernel) ⟨by rw [← hR]; exact Nat.le_of_ble_eq_true rfl, by rw [← hR]; exact Nat.le_of_ble_eq_true rfl⟩) ⟨fun a U g mk q => by obtain ⟨q0, q1, q2, qK, q10, q11, q12⟩ := q; exact ⟨q0, q1, q2, jG.calling g mk a qK, q10, q11, q12⟩, hh_10.recv (C := RX13) (T := TX13) (N := 50) hB15 rfl (by decide) hg_r0 hK, fun U hU hW => ⟨rfl, hU, hh_10.2.1, hG.step hW hU hh_10.1, hg_r0, jP.nil, by first | omega | (refine ⟨?_, ?_, ?_, ?_⟩ <;> (first | omega | rfl | assumption | decide | exact Or.inl rfl | exact Or.inr rfl | (simp only; omega)))⟩⟩ rfl rfl hl.1 rfl (lv_room (Nat.le_of_ble_eq_true rfl)) dX13_times_79 ⟨Nat.zero_le _, Nat.zero_le _⟩) hh_10.1 (fun q _ h => h) (fun q h => h) (fun u_24 t_24 H_24 locs_24 ht_24 hvm_24 hr_25 hb_24 hz_24 hk_24 hS_24 => ?_)
                rw [ht_24] at hb_24
                obtain ⟨hb_241, hb_242, hb_243, hb_244, hb_245⟩ := hb_24
                have hh_24 : jSt (dC, dI) B base G0 G0 EX13_times s.heap 0 0 [(r0, 15, 34, .int fault_6), (r0, 15, 21, .int pg)] [] [] H_24 locs_24 := ((hh_10.call hb_241 hb_242 hb_243 hb_244 hS_24 rfl (L1 := [(r0, 15, 34, .int fault_6), (r0, 15, 21, .int pg)]) [0, 1] rfl rfl (M1 := []) [] rfl rfl (I1 := []) [] rfl rfl).more hb_245)
                clear hh_10 ht_24 hvm_24 hz_24 hk_24 hS_24 hb_241 hb_242 hb_243 hb_244 hb_245
                obtain ⟨z_26, ez_26⟩ : ∃ y : Int32, y = v2_10 + (-1) := ⟨_, rfl⟩
                refine lv_iinc (v := z_26) (lv' := [(2, .int z_26), (0, .ref r0), (1, .int a1)]) hx hb dX13_times_82 hl (k := 2) rfl (by rw [ez_26]; rfl) (by decide) rfl (fun ls hl => ?_)
                have hz_26 : z_26.toInt = v2_10.toInt + (-1) := by rw [ez_26]; exact jb_iadd2 (rfl) (by decide) (by omega)
                refine lv_goto (tgt := 64) hx hb dX13_times_85 (by decide) ?_
                exact L64 z_26 _ _ hh_24 (by first | omega | (refine ⟨?_, ?_⟩ <;> (first | omega | rfl | assumption | decide | exact Or.inl rfl | exact Or.inr rfl | (simp only; omega)))) (by omega) _ (lv_sub hl [1, 2, 0] rfl)
        exact L64 ((z_9 : Int32).toInt : Int).toNat.succ z_9 _ _ hh_8 (by first | omega | (refine ⟨?_, ?_⟩ <;> (first | omega | rfl | assumption | decide | exact Or.inl rfl | exact Or.inr rfl | (simp only; omega)))) (by omega) _ (lv_sub hl [1, 2, 0] rfl)
      refine lv_if_ne (tgt := 57) hx hb dX13_times_28 (by decide) (fun c_27 => ?_) (fun c_27 => ?_)
      · skip
        have c_27' : a1.toInt ≠ 0 := jb_ne (rfl) ((by decide)) c_27
        exact C57  _ _ hh_5 (trivial) _ (lv_sub hl [0, 1] rfl)
      · skip
        have c_27' : a1.toInt = 0 := jb_ne_n (rfl) ((by decide)) c_27
        refine lv_iconst (v := 0) hx hb dX13_times_31 (by decide) ?_
        refine lv_istore_n (lv' := [(2, .int 0), (0, .ref r0), (1, .int a1)]) hx hb dX13_times_32 rfl hl (by decide) rfl (fun ls hl => ?_)
        have L33 : ∀ (N : Nat) (v2_28 : Int32) (H_28 : Heap) (locs_28 : List Loc), jSt (dC, dI) B base G0 G0 EX13_times s.heap 0 0 [(r0, 15, 34, .int fault_6), (r0, 15, 21, .int pg)] [] [] H_28 locs_28 → (0 ≤ v2_28.toInt ∧ v2_28.toInt ≤ 6) → (6 - v2_28.toInt : Int) < N → ∀ ls : Array Slot, lv_has ls 3 [(0, .ref r0), (1, .int a1), (2, .int v2_28)] → W p l e R s m ([.ref r0, .int a1] : List Value).toArray below meth c H_28 locs_28 0 0 Q (F0 m 33 ls []) := by
          intro N
          induction N with
          | zero => intro v2_28 H_28 locs_28 hh_28  hi_28 hm; exact absurd hm (by omega)
          | succ N L33 =>
            intro v2_28 H_28 locs_28 hh_28  hi_28 hm_28 ls hl
            obtain ⟨hi_28_0, hi_28_1⟩ := hi_28
            refine lv_iload_n hx hb dX13_times_33 rfl (lv_at hl 2 rfl) ?_
            refine lv_iconst (v := 1) hx hb dX13_times_34 (by decide) ?_
            refine lv_iadd hx hb dX13_times_35 ?_
            refine lv_topi (fun z_29 ez_29 => ?_)
            have hz_29 : z_29.toInt = v2_28.toInt + 1 := by rw [ez_29]; exact jb_iadd2 (rfl) ((by decide)) (by omega)
            refine lv_aload_n hx hb dX13_times_36 rfl (lv_at hl 0 rfl) ?_
            refine j7_read hx hb hown hK (C := RX13) (T := TX13) (N := 50) rfl hly_15_21 hlk_119 (hh_28.at 1 rfl) dX13_times_37 ?_
            refine lv_icmp_ge (tgt := 57) hx hb dX13_times_40 (by decide) (fun c_30 => ?_) (fun c_30 => ?_)
            · skip
              have c_30' : z_29.toInt ≥ pg.toInt := jb_ge (rfl) (rfl) c_30
              exact C57  _ _ hh_28 (trivial) _ (lv_sub hl [0, 1] rfl)
            · skip
              have c_30' : z_29.toInt < pg.toInt := jb_ge_n (rfl) (rfl) c_30
              refine lv_aload_n hx hb dX13_times_43 rfl (lv_at hl 0 rfl) ?_
              refine lv_iload_n hx hb dX13_times_44 rfl (lv_at hl 2 rfl) ?_
              refine lv_iconst (v := 1) hx hb dX13_times_45 (by decide) ?_
              refine lv_iadd hx hb dX13_times_46 ?_
              refine lv_topi (fun z_31 ez_31 => ?_)
              have hz_31 : z_31.toInt = v2_28.toInt + 1 := by rw [ez_31]; exact jb_iadd2 (rfl) ((by decide)) (by omega)
              refine lv_iload_n hx hb dX13_times_47 rfl (lv_at hl 2 rfl) ?_
              refine va_callv (A0 := jA base) (H0 := s.heap) (va_runV (As := [.int z_31, .int v2_28]) (rest := []) ⟨hx, hb, hml, hown, hts⟩ (uX13_copyGoal l dC dI ca base B hB hAp hB15 hB158 hB159 hB161 hB162 hB163 G0 H_28 r0 z_31 v2_28) (cwV 2 hts (jgV (jWr_67 _ (List.mem_of_getElem? (i := 23) rfl)) (jWr_68 _ (List.mem_of_getElem? (i := 0) rfl)) (jWr_68 _ (List.mem_of_getElem? (i := 1) rfl)) (jWr_12 _ (List.mem_of_getElem? (i := 12) rfl)) (jWr_68 _ (List.mem_of_getElem? (i := 2) rfl))) rfl rfl rfl (by decide +kernel) ⟨by rw [← hR]; exact Nat.le_of_ble_eq_true rfl, by rw [← hR]; exact Nat.le_of_ble_eq_true rfl⟩) ⟨fun a U g mk q => by obtain ⟨q0, q1, q2, qK, q10, q11, q12⟩ := q; exact ⟨q0, q1, q2, jG.calling g mk a qK, q10, q11, q12⟩, hh_28.recv (C := RX13) (T := TX13) (N := 50) hB15 rfl (by decide) hg_r0 hK, fun U hU hW => ⟨rfl, hU, hh_28.2.1, hG.step hW hU hh_28.1, hg_r0, jP.nil, by first | omega | (refine ⟨?_, ?_, ?_, ?_⟩ <;> (first | omega | rfl | assumption | decide | exact Or.inl rfl | exact Or.inr rfl | (simp only; omega)))⟩⟩ rfl rfl hl.1 rfl (lv_room (Nat.le_of_ble_eq_true rfl)) dX13_times_48 ⟨Nat.zero_le _, Nat.zero_le _⟩) hh_28.1 (fun q _ h => h) (fun q h => h) (fun u_32 t_32 H_32 locs_32 ht_32 hvm_32 hr_33 hb_32 hz_32 hk_32 hS_32 => ?_)
              rw [ht_32] at hb_32
              obtain ⟨hb_321, hb_322, hb_323, hb_324, hb_325⟩ := hb_32
              have hh_32 : jSt (dC, dI) B base G0 G0 EX13_times s.heap 0 0 [(r0, 15, 34, .int fault_6), (r0, 15, 21, .int pg)] [] [] H_32 locs_32 := ((hh_28.call hb_321 hb_322 hb_323 hb_324 hS_32 rfl (L1 := [(r0, 15, 34, .int fault_6), (r0, 15, 21, .int pg)]) [0, 1] rfl rfl (M1 := []) [] rfl rfl (I1 := []) [] rfl rfl).more hb_325)
              clear hh_28 ht_32 hvm_32 hz_32 hk_32 hS_32 hb_321 hb_322 hb_323 hb_324 hb_325
              obtain ⟨z_34, ez_34⟩ : ∃ y : Int32, y = v2_28 + 1 := ⟨_, rfl⟩
              refine lv_iinc (v := z_34) (lv' := [(2, .int z_34), (0, .ref r0), (1, .int a1)]) hx hb dX13_times_51 hl (k := 2) rfl (by rw [ez_34]; rfl) (by decide) rfl (fun ls hl => ?_)
              have hz_34 : z_34.toInt = v2_28.toInt + 1 := by rw [ez_34]; exact jb_iadd2 (rfl) (by decide) (by omega)
              refine lv_goto (tgt := 33) hx hb dX13_times_54 (by decide) ?_
              exact L33 z_34 _ _ hh_32 (by first | omega | (refine ⟨?_, ?_⟩ <;> (first | omega | rfl | assumption | decide | exact Or.inl rfl | exact Or.inr rfl | (simp only; omega)))) (by omega) _ (lv_sub hl [1, 2, 0] rfl)
        exact L33 (6 - (0 : Int32).toInt : Int).toNat.succ 0 _ _ hh_5 (by first | omega | (refine ⟨?_, ?_⟩ <;> (first | omega | rfl | assumption | decide | exact Or.inl rfl | exact Or.inr rfl | (simp only; omega)))) (by omega) _ (lv_sub hl [1, 2, 0] rfl)
    · skip
      have c_7' : fault_6.toInt > 0 := jb_le_n (rfl) ((by decide)) c_7
      rw [hQ]
      exact W.vret hx hb hr (fun t ht hW => ⟨⟨(), rfl, trivial, hh_5.rt (M1 := []) [] rfl ht⟩, by rw [ht]; try exact hh_5.1.1, fun q h9 hq => by rw [ht]; try exact hh_5.1.2.1 q h9 hq⟩) hh_5.1.2.2 dX13_times_26
  · skip
    have c_3' : z_2.toInt > 6 := jb_le_n (rfl) ((by decide)) c_3
    refine lv_aload_n hx hb dX13_times_13 rfl (lv_at hl 0 rfl) ?_
    refine lv_bipush (v := 9) hx hb dX13_times_14 (by decide) ?_
    refine va_callv (A0 := jA base) (H0 := s.heap) (va_runV (As := [.int 9]) (rest := []) ⟨hx, hb, hml, hown, hts⟩ (uX13_fails l dC dI ca base B hB hAp hB15 G0 s.heap r0 9) (cwV 1 hts (jgV (jWr_64 _ (List.mem_of_getElem? (i := 19) rfl)) (jWr_64 _ (List.mem_of_getElem? (i := 20) rfl)) (jWr_64 _ (List.mem_of_getElem? (i := 21) rfl)) (jWr_12 _ (List.mem_of_getElem? (i := 12) rfl)) (jWr_64 _ (List.mem_of_getElem? (i := 22) rfl))) rfl rfl rfl (by decide +kernel) ⟨by rw [← hR]; exact Nat.le_of_ble_eq_true rfl, by rw [← hR]; exact Nat.le_of_ble_eq_true rfl⟩) ⟨fun a U g mk q => by obtain ⟨q0, q1, q2, qK, q10, q11, q12⟩ := q; exact ⟨q0, q1, q2, jG.calling g mk a qK, q10, q11, q12⟩, hh.recv (C := RX13) (T := TX13) (N := 50) hB15 rfl (by decide) hg_r0 hK, fun U hU hW => ⟨rfl, hU, hh.2.1, hG.step hW hU hh.1, hg_r0, jP.nil, by first | omega | (refine ⟨?_, ?_⟩ <;> (first | omega | rfl | assumption | decide | exact Or.inl rfl | exact Or.inr rfl | (simp only; omega)))⟩⟩ rfl rfl hl.1 rfl (lv_room (Nat.le_of_ble_eq_true rfl)) dX13_times_16 ⟨Nat.zero_le _, Nat.zero_le _⟩) hh.1 (fun q _ h => h) (fun q h => h) (fun u_35 t_35 H_35 locs_35 ht_35 hvm_35 hr_36 hb_35 hz_35 hk_35 hS_35 => ?_)
    obtain ⟨qu_35, rfl⟩ : ∃ z, z = u_35 := ⟨_, rfl⟩
    rw [ht_35] at hb_35
    obtain ⟨hb_351, hb_352, hb_353, hb_354, hb_355⟩ := hb_35
    have hh_35 : jSt (dC, dI) B base G0 G0 EX13_times s.heap 0 0 [(r0, 15, 34, .int qu_35), (r0, 15, 21, .int pg)] [] [] H_35 locs_35 := ((hh.call hb_351 hb_352 hb_353 hb_354 hS_35 rfl (L1 := [(r0, 15, 21, .int pg)]) [0] rfl rfl (M1 := []) [] rfl rfl (I1 := []) [] rfl rfl).more hb_355)
    clear hh ht_35 hvm_35 hz_35 hk_35 hS_35 hb_351 hb_352 hb_353 hb_354 hb_355
    obtain ⟨hr_36_0, hr_36_1⟩ := hr_36
    refine lv_aload_n hx hb dX13_times_19 rfl (lv_at hl 0 rfl) ?_
    refine j7_read hx hb hown hK (C := RX13) (T := TX13) (N := 50) rfl hly_15_34 hlk_221 (hh_35.at 0 rfl) dX13_times_20 ?_
    refine lv_if_le (tgt := 27) hx hb dX13_times_23 (by decide) (fun c_37 => ?_) (fun c_37 => ?_)
    · skip
      have c_37' : qu_35.toInt ≤ 0 := jb_le (rfl) ((by decide)) c_37
      refine lv_iload_n hx hb dX13_times_27 rfl (lv_at hl 1 rfl) ?_
      have C57 : ∀ (H_38 : Heap) (locs_38 : List Loc), jSt (dC, dI) B base G0 G0 EX13_times s.heap 0 0 [(r0, 15, 34, .int qu_35), (r0, 15, 21, .int pg)] [] [] H_38 locs_38 → (True) → ∀ ls : Array Slot, lv_has ls 3 [(0, .ref r0), (1, .int a1)] → W p l e R s m ([.ref r0, .int a1] : List Value).toArray below meth c H_38 locs_38 0 0 Q (F0 m 57 ls []) := by
        intro  H_38 locs_38 hh_38  hi_38 ls hl
        refine lv_aload_n hx hb dX13_times_57 rfl (lv_at hl 0 rfl) ?_
        refine j7_read hx hb hown hK (C := RX13) (T := TX13) (N := 50) rfl hly_15_21 hlk_119 (hh_38.at 1 rfl) dX13_times_58 ?_
        refine lv_iconst (v := 1) hx hb dX13_times_61 (by decide) ?_
        refine lv_isub hx hb dX13_times_62 ?_
        refine lv_topi (fun z_39 ez_39 => ?_)
        have hz_39 : z_39.toInt = pg.toInt - 1 := by rw [ez_39]; exact jb_isub2 (rfl) ((by decide)) (by omega)
        refine lv_istore_n (lv' := [(2, .int z_39), (0, .ref r0), (1, .int a1)]) hx hb dX13_times_63 rfl hl (by decide) rfl (fun ls hl => ?_)
        have L64 : ∀ (N : Nat) (v2_40 : Int32) (H_40 : Heap) (locs_40 : List Loc), jSt (dC, dI) B base G0 G0 EX13_times s.heap 0 0 [(r0, 15, 34, .int qu_35), (r0, 15, 21, .int pg)] [] [] H_40 locs_40 → (0 ≤ v2_40.toInt ∧ v2_40.toInt ≤ 5) → (v2_40.toInt : Int) < N → ∀ ls : Array Slot, lv_has ls 3 [(0, .ref r0), (1, .int a1), (2, .int v2_40)] → W p l e R s m ([.ref r0, .int a1] : List Value).toArray below meth c H_40 locs_40 0 0 Q (F0 m 64 ls []) := by
          intro N
          induction N with
          | zero => intro v2_40 H_40 locs_40 hh_40  hi_40 hm; exact absurd hm (by omega)
          | succ N L64 =>
            intro v2_40 H_40 locs_40 hh_40  hi_40 hm_40 ls hl
            obtain ⟨hi_40_0, hi_40_1⟩ := hi_40
            refine lv_iload_n hx hb dX13_times_64 rfl (lv_at hl 2 rfl) ?_
            have C88 : ∀ (v2_41 : Int32) (H_41 : Heap) (locs_41 : List Loc), jSt (dC, dI) B base G0 G0 EX13_times s.heap 0 0 [(r0, 15, 34, .int qu_35), (r0, 15, 21, .int pg)] [] [] H_41 locs_41 → (True) → ∀ ls : Array Slot, lv_has ls 3 [(0, .ref r0), (1, .int a1), (2, .int v2_41)] → W p l e R s m ([.ref r0, .int a1] : List Value).toArray below meth c H_41 locs_41 0 0 Q (F0 m 88 ls []) := by
              intro v2_41 H_41 locs_41 hh_41  hi_41 ls hl
              refine lv_iconst (v := 1) hx hb dX13_times_88 (by decide) ?_
              refine lv_istore_n (lv' := [(2, .int 1), (0, .ref r0), (1, .int a1)]) hx hb dX13_times_89 rfl hl (by decide) rfl (fun ls hl => ?_)
              have L90 : ∀ (N : Nat) (v2_42 : Int32) (H_42 : Heap) (locs_42 : List Loc), jSt (dC, dI) B base G0 G0 EX13_times s.heap 0 0 [(r0, 15, 34, .int qu_35), (r0, 15, 21, .int pg)] [] [] H_42 locs_42 → (1 ≤ v2_42.toInt ∧ v2_42.toInt ≤ 1001) → (((a1.toInt - v2_42.toInt).toNat : Int) : Int) < N → ∀ ls : Array Slot, lv_has ls 3 [(0, .ref r0), (1, .int a1), (2, .int v2_42)] → W p l e R s m ([.ref r0, .int a1] : List Value).toArray below meth c H_42 locs_42 0 0 Q (F0 m 90 ls []) := by
                intro N
                induction N with
                | zero => intro v2_42 H_42 locs_42 hh_42  hi_42 hm; exact absurd hm (by omega)
                | succ N L90 =>
                  intro v2_42 H_42 locs_42 hh_42  hi_42 hm_42 ls hl
                  obtain ⟨hi_42_0, hi_42_1⟩ := hi_42
                  refine lv_iload_n hx hb dX13_times_90 rfl (lv_at hl 2 rfl) ?_
                  refine lv_iload_n hx hb dX13_times_91 rfl (lv_at hl 1 rfl) ?_
                  refine lv_icmp_ge (tgt := 107) hx hb dX13_times_92 (by decide) (fun c_43 => ?_) (fun c_43 => ?_)
                  · skip
                    have c_43' : v2_42.toInt ≥ a1.toInt := jb_ge (rfl) (rfl) c_43
                    refine lv_aload_n hx hb dX13_times_107 rfl (lv_at hl 0 rfl) ?_
                    refine lv_dup hx hb dX13_times_108 rfl ?_
                    refine j7_read hx hb hown hK (C := RX13) (T := TX13) (N := 50) rfl hly_15_21 hlk_119 (hh_42.at 1 rfl) dX13_times_109 ?_
                    refine lv_iload_n hx hb dX13_times_112 rfl (lv_at hl 1 rfl) ?_
                    refine lv_iconst (v := 1) hx hb dX13_times_113 (by decide) ?_
                    refine lv_isub hx hb dX13_times_114 ?_
                    refine lv_topi (fun z_44 ez_44 => ?_)
                    have hz_44 : z_44.toInt = a1.toInt - 1 := by rw [ez_44]; exact jb_isub2 (rfl) ((by decide)) (by omega)
                    refine lv_iadd hx hb dX13_times_115 ?_
                    refine lv_topi (fun z_45 ez_45 => ?_)
                    have hz_45 : z_45.toInt = pg.toInt + z_44.toInt := by rw [ez_45]; exact jb_iadd2 (rfl) (rfl) (by omega)
                    refine j7_put hx hb hown hK hh_42 hB hAp hB15 (C := RX13) (T := TX13) (N := 50) rfl (by decide) hg_r0 (i := 21) (by decide) hly_15_21 rfl hlk_119 rfl (ty := .int) (v := .int z_45) (by decide +kernel) rfl rfl (⟨_, rfl, by omega, by omega⟩) rfl (L1 := [(r0, 15, 34, .int qu_35)]) [0] rfl rfl rfl dX13_times_116 (fun H_46 locs_46 hh_46 => ?_)
                    clear hh_42
                    rw [hQ]
                    exact W.vret hx hb hr (fun t ht hW => ⟨⟨(), rfl, trivial, hh_46.rt (M1 := []) [] rfl ht⟩, by rw [ht]; try exact hh_46.1.1, fun q h9 hq => by rw [ht]; try exact hh_46.1.2.1 q h9 hq⟩) hh_46.1.2.2 dX13_times_119
                  · skip
                    have c_43' : v2_42.toInt < a1.toInt := jb_ge_n (rfl) (rfl) c_43
                    refine lv_aload_n hx hb dX13_times_95 rfl (lv_at hl 0 rfl) ?_
                    refine lv_iconst (v := 0) hx hb dX13_times_96 (by decide) ?_
                    refine lv_iload_n hx hb dX13_times_97 rfl (lv_at hl 2 rfl) ?_
                    refine va_callv (A0 := jA base) (H0 := s.heap) (va_runV (As := [.int 0, .int v2_42]) (rest := []) ⟨hx, hb, hml, hown, hts⟩ (uX13_copyGoal l dC dI ca base B hB hAp hB15 hB158 hB159 hB161 hB162 hB163 G0 H_42 r0 0 v2_42) (cwV 2 hts (jgV (jWr_67 _ (List.mem_of_getElem? (i := 23) rfl)) (jWr_68 _ (List.mem_of_getElem? (i := 0) rfl)) (jWr_68 _ (List.mem_of_getElem? (i := 1) rfl)) (jWr_12 _ (List.mem_of_getElem? (i := 12) rfl)) (jWr_68 _ (List.mem_of_getElem? (i := 2) rfl))) rfl rfl rfl (by decide +kernel) ⟨by rw [← hR]; exact Nat.le_of_ble_eq_true rfl, by rw [← hR]; exact Nat.le_of_ble_eq_true rfl⟩) ⟨fun a U g mk q => by obtain ⟨q0, q1, q2, qK, q10, q11, q12⟩ := q; exact ⟨q0, q1, q2, jG.calling g mk a qK, q10, q11, q12⟩, hh_42.recv (C := RX13) (T := TX13) (N := 50) hB15 rfl (by decide) hg_r0 hK, fun U hU hW => ⟨rfl, hU, hh_42.2.1, hG.step hW hU hh_42.1, hg_r0, jP.nil, by first | omega | (refine ⟨?_, ?_, ?_, ?_⟩ <;> (first | omega | rfl | assumption | decide | exact Or.inl rfl | exact Or.inr rfl | (simp only; omega)))⟩⟩ rfl rfl hl.1 rfl (lv_room (Nat.le_of_ble_eq_true rfl)) dX13_times_98 ⟨Nat.zero_le _, Nat.zero_le _⟩) hh_42.1 (fun q _ h => h) (fun q h => h) (fun u_47 t_47 H_47 locs_47 ht_47 hvm_47 hr_48 hb_47 hz_47 hk_47 hS_47 => ?_)
                    rw [ht_47] at hb_47
                    obtain ⟨hb_471, hb_472, hb_473, hb_474, hb_475⟩ := hb_47
                    have hh_47 : jSt (dC, dI) B base G0 G0 EX13_times s.heap 0 0 [(r0, 15, 34, .int qu_35), (r0, 15, 21, .int pg)] [] [] H_47 locs_47 := ((hh_42.call hb_471 hb_472 hb_473 hb_474 hS_47 rfl (L1 := [(r0, 15, 34, .int qu_35), (r0, 15, 21, .int pg)]) [0, 1] rfl rfl (M1 := []) [] rfl rfl (I1 := []) [] rfl rfl).more hb_475)
                    clear hh_42 ht_47 hvm_47 hz_47 hk_47 hS_47 hb_471 hb_472 hb_473 hb_474 hb_475
                    obtain ⟨z_49, ez_49⟩ : ∃ y : Int32, y = v2_42 + 1 := ⟨_, rfl⟩
                    refine lv_iinc (v := z_49) (lv' := [(2, .int z_49), (0, .ref r0), (1, .int a1)]) hx hb dX13_times_101 hl (k := 2) rfl (by rw [ez_49]; rfl) (by decide) rfl (fun ls hl => ?_)
                    have hz_49 : z_49.toInt = v2_42.toInt + 1 := by rw [ez_49]; exact jb_iadd2 (rfl) (by decide) (by omega)
                    refine lv_goto (tgt := 90) hx hb dX13_times_104 (by decide) ?_
                    exact L90 z_49 _ _ hh_47 (by first | omega | (refine ⟨?_, ?_⟩ <;> (first | omega | rfl | assumption | decide | exact Or.inl rfl | exact Or.inr rfl | (simp only; omega)))) (by omega) _ (lv_sub hl [1, 2, 0] rfl)
              exact L90 (((a1.toInt - (1 : Int32).toInt).toNat : Int) : Int).toNat.succ 1 _ _ hh_41 (by first | omega | (refine ⟨?_, ?_⟩ <;> (first | omega | rfl | assumption | decide | exact Or.inl rfl | exact Or.inr rfl | (simp only; omega)))) (by omega) _ (lv_sub hl [1, 2, 0] rfl)
            refine lv_if_le (tgt := 88) hx hb dX13_times_65 (by decide) (fun c_50 => ?_) (fun c_50 => ?_)
            · skip
              have c_50' : v2_40.toInt ≤ 0 := jb_le (rfl) ((by decide)) c_50
              exact C88 v2_40 _ _ hh_40 (trivial) _ (lv_sub hl [0, 1, 2] rfl)
            · skip
              have c_50' : v2_40.toInt > 0 := jb_le_n (rfl) ((by decide)) c_50
              refine lv_iload_n hx hb dX13_times_68 rfl (lv_at hl 1 rfl) ?_
              refine lv_if_le (tgt := 88) hx hb dX13_times_69 (by decide) (fun c_51 => ?_) (fun c_51 => ?_)
              · skip
                have c_51' : a1.toInt ≤ 0 := jb_le (rfl) ((by decide)) c_51
                exact C88 v2_40 _ _ hh_40 (trivial) _ (lv_sub hl [0, 1, 2] rfl)
              · skip
                have c_51' : a1.toInt > 0 := jb_le_n (rfl) ((by decide)) c_51
                refine lv_aload_n hx hb dX13_times_72 rfl (lv_at hl 0 rfl) ?_
                refine lv_iload_n hx hb dX13_times_73 rfl (lv_at hl 2 rfl) ?_
                refine lv_iload_n hx hb dX13_times_74 rfl (lv_at hl 2 rfl) ?_
                refine lv_iload_n hx hb dX13_times_75 rfl (lv_at hl 1 rfl) ?_
                refine lv_iadd hx hb dX13_times_76 ?_
                refine lv_topi (fun z_52 ez_52 => ?_)
                have hz_52 : z_52.toInt = v2_40.toInt + a1.toInt := by rw [ez_52]; exact jb_iadd2 (rfl) (rfl) (by omega)
                refine lv_iconst (v := 1) hx hb dX13_times_77 (by decide) ?_
                refine lv_isub hx hb dX13_times_78 ?_
                refine lv_topi (fun z_53 ez_53 => ?_)
                have hz_53 : z_53.toInt = z_52.toInt - 1 := by rw [ez_53]; exact jb_isub2 (rfl) ((by decide)) (by omega)
                refine va_callv (A0 := jA base) (H0 := s.heap) (va_runV (As := [.int v2_40, .int z_53]) (rest := []) ⟨hx, hb, hml, hown, hts⟩ (uX13_copyGoal l dC dI ca base B hB hAp hB15 hB158 hB159 hB161 hB162 hB163 G0 H_40 r0 v2_40 z_53) (cwV 2 hts (jgV (jWr_67 _ (List.mem_of_getElem? (i := 23) rfl)) (jWr_68 _ (List.mem_of_getElem? (i := 0) rfl)) (jWr_68 _ (List.mem_of_getElem? (i := 1) rfl)) (jWr_12 _ (List.mem_of_getElem? (i := 12) rfl)) (jWr_68 _ (List.mem_of_getElem? (i := 2) rfl))) rfl rfl rfl (by decide +kernel) ⟨by rw [← hR]; exact Nat.le_of_ble_eq_true rfl, by rw [← hR]; exact Nat.le_of_ble_eq_true rfl⟩) ⟨fun a U g mk q => by obtain ⟨q0, q1, q2, qK, q10, q11, q12⟩ := q; exact ⟨q0, q1, q2, jG.calling g mk a qK, q10, q11, q12⟩, hh_40.recv (C := RX13) (T := TX13) (N := 50) hB15 rfl (by decide) hg_r0 hK, fun U hU hW => ⟨rfl, hU, hh_40.2.1, hG.step hW hU hh_40.1, hg_r0, jP.nil, by first | omega | (refine ⟨?_, ?_, ?_, ?_⟩ <;> (first | omega | rfl | assumption | decide | exact Or.inl rfl | exact Or.inr rfl | (simp only; omega)))⟩⟩ rfl rfl hl.1 rfl (lv_room (Nat.le_of_ble_eq_true rfl)) dX13_times_79 ⟨Nat.zero_le _, Nat.zero_le _⟩) hh_40.1 (fun q _ h => h) (fun q h => h) (fun u_54 t_54 H_54 locs_54 ht_54 hvm_54 hr_55 hb_54 hz_54 hk_54 hS_54 => ?_)
                rw [ht_54] at hb_54
                obtain ⟨hb_541, hb_542, hb_543, hb_544, hb_545⟩ := hb_54
                have hh_54 : jSt (dC, dI) B base G0 G0 EX13_times s.heap 0 0 [(r0, 15, 34, .int qu_35), (r0, 15, 21, .int pg)] [] [] H_54 locs_54 := ((hh_40.call hb_541 hb_542 hb_543 hb_544 hS_54 rfl (L1 := [(r0, 15, 34, .int qu_35), (r0, 15, 21, .int pg)]) [0, 1] rfl rfl (M1 := []) [] rfl rfl (I1 := []) [] rfl rfl).more hb_545)
                clear hh_40 ht_54 hvm_54 hz_54 hk_54 hS_54 hb_541 hb_542 hb_543 hb_544 hb_545
                obtain ⟨z_56, ez_56⟩ : ∃ y : Int32, y = v2_40 + (-1) := ⟨_, rfl⟩
                refine lv_iinc (v := z_56) (lv' := [(2, .int z_56), (0, .ref r0), (1, .int a1)]) hx hb dX13_times_82 hl (k := 2) rfl (by rw [ez_56]; rfl) (by decide) rfl (fun ls hl => ?_)
                have hz_56 : z_56.toInt = v2_40.toInt + (-1) := by rw [ez_56]; exact jb_iadd2 (rfl) (by decide) (by omega)
                refine lv_goto (tgt := 64) hx hb dX13_times_85 (by decide) ?_
                exact L64 z_56 _ _ hh_54 (by first | omega | (refine ⟨?_, ?_⟩ <;> (first | omega | rfl | assumption | decide | exact Or.inl rfl | exact Or.inr rfl | (simp only; omega)))) (by omega) _ (lv_sub hl [1, 2, 0] rfl)
        exact L64 ((z_39 : Int32).toInt : Int).toNat.succ z_39 _ _ hh_38 (by first | omega | (refine ⟨?_, ?_⟩ <;> (first | omega | rfl | assumption | decide | exact Or.inl rfl | exact Or.inr rfl | (simp only; omega)))) (by omega) _ (lv_sub hl [1, 2, 0] rfl)
      refine lv_if_ne (tgt := 57) hx hb dX13_times_28 (by decide) (fun c_57 => ?_) (fun c_57 => ?_)
      · skip
        have c_57' : a1.toInt ≠ 0 := jb_ne (rfl) ((by decide)) c_57
        exact C57  _ _ hh_35 (trivial) _ (lv_sub hl [0, 1] rfl)
      · skip
        have c_57' : a1.toInt = 0 := jb_ne_n (rfl) ((by decide)) c_57
        refine lv_iconst (v := 0) hx hb dX13_times_31 (by decide) ?_
        refine lv_istore_n (lv' := [(2, .int 0), (0, .ref r0), (1, .int a1)]) hx hb dX13_times_32 rfl hl (by decide) rfl (fun ls hl => ?_)
        have L33 : ∀ (N : Nat) (v2_58 : Int32) (H_58 : Heap) (locs_58 : List Loc), jSt (dC, dI) B base G0 G0 EX13_times s.heap 0 0 [(r0, 15, 34, .int qu_35), (r0, 15, 21, .int pg)] [] [] H_58 locs_58 → (0 ≤ v2_58.toInt ∧ v2_58.toInt ≤ 6) → (6 - v2_58.toInt : Int) < N → ∀ ls : Array Slot, lv_has ls 3 [(0, .ref r0), (1, .int a1), (2, .int v2_58)] → W p l e R s m ([.ref r0, .int a1] : List Value).toArray below meth c H_58 locs_58 0 0 Q (F0 m 33 ls []) := by
          intro N
          induction N with
          | zero => intro v2_58 H_58 locs_58 hh_58  hi_58 hm; exact absurd hm (by omega)
          | succ N L33 =>
            intro v2_58 H_58 locs_58 hh_58  hi_58 hm_58 ls hl
            obtain ⟨hi_58_0, hi_58_1⟩ := hi_58
            refine lv_iload_n hx hb dX13_times_33 rfl (lv_at hl 2 rfl) ?_
            refine lv_iconst (v := 1) hx hb dX13_times_34 (by decide) ?_
            refine lv_iadd hx hb dX13_times_35 ?_
            refine lv_topi (fun z_59 ez_59 => ?_)
            have hz_59 : z_59.toInt = v2_58.toInt + 1 := by rw [ez_59]; exact jb_iadd2 (rfl) ((by decide)) (by omega)
            refine lv_aload_n hx hb dX13_times_36 rfl (lv_at hl 0 rfl) ?_
            refine j7_read hx hb hown hK (C := RX13) (T := TX13) (N := 50) rfl hly_15_21 hlk_119 (hh_58.at 1 rfl) dX13_times_37 ?_
            refine lv_icmp_ge (tgt := 57) hx hb dX13_times_40 (by decide) (fun c_60 => ?_) (fun c_60 => ?_)
            · skip
              have c_60' : z_59.toInt ≥ pg.toInt := jb_ge (rfl) (rfl) c_60
              exact C57  _ _ hh_58 (trivial) _ (lv_sub hl [0, 1] rfl)
            · skip
              have c_60' : z_59.toInt < pg.toInt := jb_ge_n (rfl) (rfl) c_60
              refine lv_aload_n hx hb dX13_times_43 rfl (lv_at hl 0 rfl) ?_
              refine lv_iload_n hx hb dX13_times_44 rfl (lv_at hl 2 rfl) ?_
              refine lv_iconst (v := 1) hx hb dX13_times_45 (by decide) ?_
              refine lv_iadd hx hb dX13_times_46 ?_
              refine lv_topi (fun z_61 ez_61 => ?_)
              have hz_61 : z_61.toInt = v2_58.toInt + 1 := by rw [ez_61]; exact jb_iadd2 (rfl) ((by decide)) (by omega)
              refine lv_iload_n hx hb dX13_times_47 rfl (lv_at hl 2 rfl) ?_
              refine va_callv (A0 := jA base) (H0 := s.heap) (va_runV (As := [.int z_61, .int v2_58]) (rest := []) ⟨hx, hb, hml, hown, hts⟩ (uX13_copyGoal l dC dI ca base B hB hAp hB15 hB158 hB159 hB161 hB162 hB163 G0 H_58 r0 z_61 v2_58) (cwV 2 hts (jgV (jWr_67 _ (List.mem_of_getElem? (i := 23) rfl)) (jWr_68 _ (List.mem_of_getElem? (i := 0) rfl)) (jWr_68 _ (List.mem_of_getElem? (i := 1) rfl)) (jWr_12 _ (List.mem_of_getElem? (i := 12) rfl)) (jWr_68 _ (List.mem_of_getElem? (i := 2) rfl))) rfl rfl rfl (by decide +kernel) ⟨by rw [← hR]; exact Nat.le_of_ble_eq_true rfl, by rw [← hR]; exact Nat.le_of_ble_eq_true rfl⟩) ⟨fun a U g mk q => by obtain ⟨q0, q1, q2, qK, q10, q11, q12⟩ := q; exact ⟨q0, q1, q2, jG.calling g mk a qK, q10, q11, q12⟩, hh_58.recv (C := RX13) (T := TX13) (N := 50) hB15 rfl (by decide) hg_r0 hK, fun U hU hW => ⟨rfl, hU, hh_58.2.1, hG.step hW hU hh_58.1, hg_r0, jP.nil, by first | omega | (refine ⟨?_, ?_, ?_, ?_⟩ <;> (first | omega | rfl | assumption | decide | exact Or.inl rfl | exact Or.inr rfl | (simp only; omega)))⟩⟩ rfl rfl hl.1 rfl (lv_room (Nat.le_of_ble_eq_true rfl)) dX13_times_48 ⟨Nat.zero_le _, Nat.zero_le _⟩) hh_58.1 (fun q _ h => h) (fun q h => h) (fun u_62 t_62 H_62 locs_62 ht_62 hvm_62 hr_63 hb_62 hz_62 hk_62 hS_62 => ?_)
              rw [ht_62] at hb_62
              obtain ⟨hb_621, hb_622, hb_623, hb_624, hb_625⟩ := hb_62
              have hh_62 : jSt (dC, dI) B base G0 G0 EX13_times s.heap 0 0 [(r0, 15, 34, .int qu_35), (r0, 15, 21, .int pg)] [] [] H_62 locs_62 := ((hh_58.call hb_621 hb_622 hb_623 hb_624 hS_62 rfl (L1 := [(r0, 15, 34, .int qu_35), (r0, 15, 21, .int pg)]) [0, 1] rfl rfl (M1 := []) [] rfl rfl (I1 := []) [] rfl rfl).more hb_625)
              clear hh_58 ht_62 hvm_62 hz_62 hk_62 hS_62 hb_621 hb_622 hb_623 hb_624 hb_625
              obtain ⟨z_64, ez_64⟩ : ∃ y : Int32, y = v2_58 + 1 := ⟨_, rfl⟩
              refine lv_iinc (v := z_64) (lv' := [(2, .int z_64), (0, .ref r0), (1, .int a1)]) hx hb dX13_times_51 hl (k := 2) rfl (by rw [ez_64]; rfl) (by decide) rfl (fun ls hl => ?_)
              have hz_64 : z_64.toInt = v2_58.toInt + 1 := by rw [ez_64]; exact jb_iadd2 (rfl) (by decide) (by omega)
              refine lv_goto (tgt := 33) hx hb dX13_times_54 (by decide) ?_
              exact L33 z_64 _ _ hh_62 (by first | omega | (refine ⟨?_, ?_⟩ <;> (first | omega | rfl | assumption | decide | exact Or.inl rfl | exact Or.inr rfl | (simp only; omega)))) (by omega) _ (lv_sub hl [1, 2, 0] rfl)
        exact L33 (6 - (0 : Int32).toInt : Int).toNat.succ 0 _ _ hh_35 (by first | omega | (refine ⟨?_, ?_⟩ <;> (first | omega | rfl | assumption | decide | exact Or.inl rfl | exact Or.inr rfl | (simp only; omega)))) (by omega) _ (lv_sub hl [1, 2, 0] rfl)
    · skip
      have c_37' : qu_35.toInt > 0 := jb_le_n (rfl) ((by decide)) c_37
      rw [hQ]
      exact W.vret hx hb hr (fun t ht hW => ⟨⟨(), rfl, trivial, hh_35.rt (M1 := []) [] rfl ht⟩, by rw [ht]; try exact hh_35.1.1, fun q h9 hq => by rw [ht]; try exact hh_35.1.2.1 q h9 hq⟩) hh_35.1.2.2 dX13_times_26
set_option maxHeartbeats 4000000 in
set_option maxRecDepth 20000 in
theorem uX13_done (l : Launch) (dC : Nat → ClassId) (dI : Nat → Nat → Nat) (ca : Nat → ClassId) (base : Nat) (B : jF) (hB : jBok B) (hAp : jAp (dC, dI)) (hB15 : ∀ n G a H, B 15 n G a H ↔ jOb (dC, dI) 15 50 (F15 n G) a H) (hB158 : ∀ n G a H, B 158 n G a H ↔ jAr (dC, dI) (ca 1) (fun j z => 0 ≤ z.toInt ∧ z.toInt ≤ 6) n a H) (hB159 : ∀ n G a H, B 159 n G a H ↔ jAr (dC, dI) (ca 1) (fun j z => 0 ≤ z.toInt ∧ z.toInt ≤ 8) n a H) (hB161 : ∀ n G a H, B 161 n G a H ↔ jAr (dC, dI) (ca 1) (fun j z => 0 ≤ z.toInt ∧ z.toInt ≤ 119999) n a H) (hB162 : ∀ n G a H, B 162 n G a H ↔ jAr (dC, dI) (ca 1) (fun j z => 0 ≤ z.toInt ∧ z.toInt ≤ 119999) n a H) (hB163 : ∀ n G a H, B 163 n G a H ↔ jAr (dC, dI) (ca 1) (fun j z => 0 ≤ z.toInt ∧ z.toInt ≤ 1599) n a H) (G0 : jT) (H0 : Heap) (r0 : Nat) (a1 : Int32) (pg : Int32) : Met l yX13_done (jw yX13_done cX13_done 2 none) ({ frames := 2, cells := 0, slots := 0, locals := 45 }) (va_Pc [.ref r0, .int a1] (fun U => U.heap = H0 ∧ jX B base G0 [] H0 ∧ jG dC dI ca base U ∧ G0 r0 = some (15, 0) ∧ jP (dC, dI) G0 H0 [(r0, 15, 21, .int pg)] ∧ 1 ≤ pg.toInt ∧ pg.toInt ≤ 6)) (va_Qv (S := Unit) (fun u => True) (fun u t => jRt (dC, dI) B base G0 EX13_done H0 [] t.heap) (jA base)) 0 0 (jA base) := by
  refine Met.ofW (cc := cX13_done) (maxL := 2) (ret := none) (by decide) rfl ?_
  intro p e s m args below meth c s₁ Bd hml hv
  obtain ⟨rfl, hH0, hX, hG, hg_r0, hP0, hp0, hp1⟩ := hv
  have hK := hG.1
  have hx := Bd.exec
  have hb := Bd.bytes
  have hr := Bd.returns
  have hts := atoms_spec (ws := (jw yX13_done cX13_done 2 none)) Bd.pre
  have htw : ∀ w ∈ jWl, w.before _ s = true := fun w h => hts w (List.mem_cons_of_mem _ h)
  have hown : s.vm.findClass RX13 = some m.cls := findClass_of_methodNamed Bd.named
  have hlocks := Bd.notSynchronized
  obtain ⟨Q, hQ⟩ : ∃ Q, Q = MQ below (va_Qv (S := Unit) (fun u => True) (fun u t => jRt (dC, dI) B base G0 EX13_done H0 [] t.heap) (jA base)) ([.ref r0, .int a1] : List Value).toArray s 0 0 (jA base) := ⟨_, rfl⟩
  rw [← hQ]
  have hl := lv_entry ([.ref r0, .int a1]) (n := 2) (Nat.le_of_ble_eq_true rfl)
  rw [lg_entry_eq]
  generalize (lg_sl ([.ref r0, .int a1]) ++ List.replicate (2 - (lg_sl ([.ref r0, .int a1])).length) Slot.unset).toArray = ls at hl ⊢
  have hl : lv_has ls 2 [(0, .ref r0), (1, .int a1)] := hl
  generalize hR : (headSpec (jw yX13_done cX13_done 2 none) ({ frames := 2, cells := 0, slots := 0, locals := 45 })).room = R
  subst hH0
  have hh : jSt (dC, dI) B base G0 G0 EX13_done s.heap 0 0 [(r0, 15, 21, .int pg)] [] [] s.heap [] := jSt.start hX hP0 jMc.nil jIs.nil
  clear hX hP0
  have hk0 : (0 : Int32).toInt = 0 := by decide
  have hk1 : (1 : Int32).toInt = 1 := by decide
  have hk8 : (8 : Int32).toInt = 8 := by decide
  have hrg_a1 := jb_rng a1
  refine lv_iload_n hx hb dX13_done_0 rfl (lv_at hl 1 rfl) ?_
  refine lv_if_eq (tgt := 12) hx hb dX13_done_1 (by decide) (fun c_1 => ?_) (fun c_1 => ?_)
  · skip
    have c_1' : a1.toInt = 0 := jb_eq (rfl) ((by decide)) c_1
    refine lv_aload_n hx hb dX13_done_12 rfl (lv_at hl 0 rfl) ?_
    refine lv_bipush (v := 8) hx hb dX13_done_13 (by decide) ?_
    refine va_callv (A0 := jA base) (H0 := s.heap) (va_runV (As := [.int 8]) (rest := []) ⟨hx, hb, hml, hown, hts⟩ (uX13_fails l dC dI ca base B hB hAp hB15 G0 s.heap r0 8) (cwV 1 hts (jgV (jWr_64 _ (List.mem_of_getElem? (i := 19) rfl)) (jWr_64 _ (List.mem_of_getElem? (i := 20) rfl)) (jWr_64 _ (List.mem_of_getElem? (i := 21) rfl)) (jWr_12 _ (List.mem_of_getElem? (i := 12) rfl)) (jWr_64 _ (List.mem_of_getElem? (i := 22) rfl))) rfl rfl rfl (by decide +kernel) ⟨by rw [← hR]; exact Nat.le_of_ble_eq_true rfl, by rw [← hR]; exact Nat.le_of_ble_eq_true rfl⟩) ⟨fun a U g mk q => by obtain ⟨q0, q1, q2, qK, q10, q11, q12⟩ := q; exact ⟨q0, q1, q2, jG.calling g mk a qK, q10, q11, q12⟩, hh.recv (C := RX13) (T := TX13) (N := 50) hB15 rfl (by decide) hg_r0 hK, fun U hU hW => ⟨rfl, hU, hh.2.1, hG.step hW hU hh.1, hg_r0, jP.nil, by first | omega | (refine ⟨?_, ?_⟩ <;> (first | omega | rfl | assumption | decide | exact Or.inl rfl | exact Or.inr rfl | (simp only; omega)))⟩⟩ rfl rfl hl.1 rfl (lv_room (Nat.le_of_ble_eq_true rfl)) dX13_done_15 ⟨Nat.zero_le _, Nat.zero_le _⟩) hh.1 (fun q _ h => h) (fun q h => h) (fun u_2 t_2 H_2 locs_2 ht_2 hvm_2 hr_3 hb_2 hz_2 hk_2 hS_2 => ?_)
    obtain ⟨qu_2, rfl⟩ : ∃ z, z = u_2 := ⟨_, rfl⟩
    rw [ht_2] at hb_2
    obtain ⟨hb_21, hb_22, hb_23, hb_24, hb_25⟩ := hb_2
    have hh_2 : jSt (dC, dI) B base G0 G0 EX13_done s.heap 0 0 [(r0, 15, 34, .int qu_2), (r0, 15, 21, .int pg)] [] [] H_2 locs_2 := ((hh.call hb_21 hb_22 hb_23 hb_24 hS_2 rfl (L1 := [(r0, 15, 21, .int pg)]) [0] rfl rfl (M1 := []) [] rfl rfl (I1 := []) [] rfl rfl).more hb_25)
    clear hh ht_2 hvm_2 hz_2 hk_2 hS_2 hb_21 hb_22 hb_23 hb_24 hb_25
    obtain ⟨hr_3_0, hr_3_1⟩ := hr_3
    rw [hQ]
    exact W.vret hx hb hr (fun t ht hW => ⟨⟨(), rfl, trivial, hh_2.rt (M1 := []) [] rfl ht⟩, by rw [ht]; try exact hh_2.1.1, fun q h9 hq => by rw [ht]; try exact hh_2.1.2.1 q h9 hq⟩) hh_2.1.2.2 dX13_done_18
  · skip
    have c_1' : a1.toInt ≠ 0 := jb_eq_n (rfl) ((by decide)) c_1
    refine lv_aload_n hx hb dX13_done_4 rfl (lv_at hl 0 rfl) ?_
    refine lv_iconst (v := 0) hx hb dX13_done_5 (by decide) ?_
    refine va_callv (A0 := jA base) (H0 := s.heap) (va_runV (As := [.int 0]) (rest := []) ⟨hx, hb, hml, hown, hts⟩ (uX13_times l dC dI ca base B hB hAp hB15 hB158 hB159 hB161 hB162 hB163 G0 s.heap r0 0 pg) (cwV 1 hts (jgV (jWr_67 _ (List.mem_of_getElem? (i := 19) rfl)) (jWr_67 _ (List.mem_of_getElem? (i := 20) rfl)) (jWr_67 _ (List.mem_of_getElem? (i := 21) rfl)) (jWr_12 _ (List.mem_of_getElem? (i := 12) rfl)) (jWr_67 _ (List.mem_of_getElem? (i := 22) rfl))) rfl rfl rfl (by decide +kernel) ⟨by rw [← hR]; exact Nat.le_of_ble_eq_true rfl, by rw [← hR]; exact Nat.le_of_ble_eq_true rfl⟩) ⟨fun a U g mk q => by obtain ⟨q0, q1, q2, qK, q10, q11, q12⟩ := q; exact ⟨q0, q1, q2, jG.calling g mk a qK, q10, q11, q12⟩, hh.recv (C := RX13) (T := TX13) (N := 50) hB15 rfl (by decide) hg_r0 hK, fun U hU hW => ⟨rfl, hU, hh.2.1, hG.step hW hU hh.1, hg_r0, (hh.2.2.1.sub (L1 := [(r0, 15, 21, .int pg)]) [0] rfl), by first | omega | (refine ⟨?_, ?_, ?_, ?_⟩ <;> (first | omega | rfl | assumption | decide | exact Or.inl rfl | exact Or.inr rfl | (simp only; omega)))⟩⟩ rfl rfl hl.1 rfl (lv_room (Nat.le_of_ble_eq_true rfl)) dX13_done_6 ⟨Nat.zero_le _, Nat.zero_le _⟩) hh.1 (fun q _ h => h) (fun q h => h) (fun u_4 t_4 H_4 locs_4 ht_4 hvm_4 hr_5 hb_4 hz_4 hk_4 hS_4 => ?_)
    rw [ht_4] at hb_4
    obtain ⟨hb_41, hb_42, hb_43, hb_44, hb_45⟩ := hb_4
    have hh_4 : jSt (dC, dI) B base G0 G0 EX13_done s.heap 0 0 [] [] [] H_4 locs_4 := ((hh.call hb_41 hb_42 hb_43 hb_44 hS_4 rfl (L1 := []) [] rfl rfl (M1 := []) [] rfl rfl (I1 := []) [] rfl rfl).more hb_45)
    clear hh ht_4 hvm_4 hz_4 hk_4 hS_4 hb_41 hb_42 hb_43 hb_44 hb_45
    refine lv_goto (tgt := 18) hx hb dX13_done_9 (by decide) ?_
    rw [hQ]
    exact W.vret hx hb hr (fun t ht hW => ⟨⟨(), rfl, trivial, hh_4.rt (M1 := []) [] rfl ht⟩, by rw [ht]; try exact hh_4.1.1, fun q h9 hq => by rw [ht]; try exact hh_4.1.2.1 q h9 hq⟩) hh_4.1.2.2 dX13_done_18
set_option maxHeartbeats 4000000 in
set_option maxRecDepth 20000 in
theorem uX13_put (l : Launch) (dC : Nat → ClassId) (dI : Nat → Nat → Nat) (ca : Nat → ClassId) (base : Nat) (B : jF) (hB : jBok B) (hAp : jAp (dC, dI)) (hB15 : ∀ n G a H, B 15 n G a H ↔ jOb (dC, dI) 15 50 (F15 n G) a H) (hB101 : ∀ n G a H, B 101 n G a H ↔ jAr (dC, dI) (ca 1) (fun j z => True) n a H) (G0 : jT) (H0 : Heap) (r0 : Nat) (a1 : Int32) : Met l yX13_put (jw yX13_put cX13_put 2 none) ({ frames := 0, cells := 0, slots := 0, locals := 0 }) (va_Pc [.ref r0, .int a1] (fun U => U.heap = H0 ∧ jX B base G0 [] H0 ∧ jG dC dI ca base U ∧ G0 r0 = some (15, 0) ∧ jP (dC, dI) G0 H0 [] ∧ True)) (va_Qv (S := Unit) (fun u => True) (fun u t => jRt (dC, dI) B base G0 EX13_put H0 [] t.heap) (jA base)) 0 0 (jA base) := by
  refine Met.ofW (cc := cX13_put) (maxL := 2) (ret := none) (by decide) rfl ?_
  intro p e s m args below meth c s₁ Bd hml hv
  obtain ⟨rfl, hH0, hX, hG, hg_r0, hP0, hp0⟩ := hv
  have hK := hG.1
  have hx := Bd.exec
  have hb := Bd.bytes
  have hr := Bd.returns
  have hts := atoms_spec (ws := (jw yX13_put cX13_put 2 none)) Bd.pre
  have htw : ∀ w ∈ jWl, w.before _ s = true := fun w h => hts w (List.mem_cons_of_mem _ h)
  have hown : s.vm.findClass RX13 = some m.cls := findClass_of_methodNamed Bd.named
  have hlocks := Bd.notSynchronized
  obtain ⟨Q, hQ⟩ : ∃ Q, Q = MQ below (va_Qv (S := Unit) (fun u => True) (fun u t => jRt (dC, dI) B base G0 EX13_put H0 [] t.heap) (jA base)) ([.ref r0, .int a1] : List Value).toArray s 0 0 (jA base) := ⟨_, rfl⟩
  rw [← hQ]
  have hl := lv_entry ([.ref r0, .int a1]) (n := 2) (Nat.le_of_ble_eq_true rfl)
  rw [lg_entry_eq]
  generalize (lg_sl ([.ref r0, .int a1]) ++ List.replicate (2 - (lg_sl ([.ref r0, .int a1])).length) Slot.unset).toArray = ls at hl ⊢
  have hl : lv_has ls 2 [(0, .ref r0), (1, .int a1)] := hl
  generalize hR : (headSpec (jw yX13_put cX13_put 2 none) ({ frames := 0, cells := 0, slots := 0, locals := 0 })).room = R
  subst hH0
  have hh : jSt (dC, dI) B base G0 G0 EX13_put s.heap 0 0 [] [] [] s.heap [] := jSt.start hX hP0 jMc.nil jIs.nil
  clear hX hP0
  have hk0 : (0 : Int32).toInt = 0 := by decide
  have hk1 : (1 : Int32).toInt = 1 := by decide
  have hk100000 : (100000 : Int32).toInt = 100000 := by decide
  have hly_15_45 := htw (u_lay RX13 TX13 45) (jWc_wsX130 _ (u_in_lay (by decide)))
  have hly_15_46 := htw (u_lay RX13 TX13 46) (jWc_wsX130 _ (u_in_lay (by decide)))
  have hlk_375 := (htw (.fieldLink RX13 375 "ProofServerModel$Kernel" "lines" "I") (jWr_70 _ (List.mem_of_getElem? (i := 10) rfl)))
  have hcs_89 := htw (.constant RX13 89 100000) (jWr_15 _ (List.mem_of_getElem? (i := 10) rfl))
  have hlk_90 := (htw (.fieldLink RX13 90 "ProofServerModel$Kernel" "line" "[I") (jWr_15 _ (List.mem_of_getElem? (i := 11) rfl)))
  have hrg_a1 := jb_rng a1
  refine lv_aload_n hx hb dX13_put_0 rfl (lv_at hl 0 rfl) ?_
  obtain ⟨v_1, hv_1, hh_2⟩ := hh.pin (C := RX13) (T := TX13) (N := 50) hB15 rfl (by decide) hg_r0 (i := 46) (by decide) rfl
  clear hh
  obtain ⟨lines_3, rfl, hlolines_3, hhilines_3⟩ := hv_1
  refine j7_read hx hb hown hK (C := RX13) (T := TX13) (N := 50) rfl hly_15_46 hlk_375 (hh_2.at 0 rfl) dX13_put_1 ?_
  refine lv_ldc hx hb hown hcs_89 dX13_put_4 ?_
  refine lv_icmp_ne (tgt := 10) hx hb dX13_put_6 (by decide) (fun c_4 => ?_) (fun c_4 => ?_)
  · skip
    have c_4' : lines_3.toInt ≠ 100000 := jb_ne (rfl) ((by decide)) c_4
    refine lv_aload_n hx hb dX13_put_10 rfl (lv_at hl 0 rfl) ?_
    obtain ⟨v_5, hv_5, hh_6⟩ := hh_2.pin (C := RX13) (T := TX13) (N := 50) hB15 rfl (by decide) hg_r0 (i := 45) (by decide) rfl
    clear hh_2
    obtain ⟨line_7, rfl, hg_line_7⟩ := hv_5
    refine j7_read hx hb hown hK (C := RX13) (T := TX13) (N := 50) rfl hly_15_45 hlk_90 (hh_6.at 0 rfl) dX13_put_11 ?_
    refine lv_aload_n hx hb dX13_put_14 rfl (lv_at hl 0 rfl) ?_
    refine j7_read hx hb hown hK (C := RX13) (T := TX13) (N := 50) rfl hly_15_46 hlk_375 (hh_6.at 1 rfl) dX13_put_15 ?_
    refine lv_iload_n hx hb dX13_put_18 rfl (lv_at hl 1 rfl) ?_
    refine j7_iast hx hb hK hh_6 hB hB101 1 rfl (by decide) (by decide) rfl rfl rfl hg_line_7 (x := lines_3.toInt) (rfl) (by omega) (trivial) dX13_put_19 (fun H_8 locs_8 hh_8 => ?_)
    clear hh_6
    refine lv_aload_n hx hb dX13_put_20 rfl (lv_at hl 0 rfl) ?_
    refine lv_dup hx hb dX13_put_21 rfl ?_
    refine j7_read hx hb hown hK (C := RX13) (T := TX13) (N := 50) rfl hly_15_46 hlk_375 (hh_8.at 1 rfl) dX13_put_22 ?_
    refine lv_iconst (v := 1) hx hb dX13_put_25 (by decide) ?_
    refine lv_iadd hx hb dX13_put_26 ?_
    refine lv_topi (fun z_9 ez_9 => ?_)
    have hz_9 : z_9.toInt = lines_3.toInt + 1 := by rw [ez_9]; exact jb_iadd2 (rfl) ((by decide)) (by omega)
    refine j7_put hx hb hown hK hh_8 hB hAp hB15 (C := RX13) (T := TX13) (N := 50) rfl (by decide) hg_r0 (i := 46) (by decide) hly_15_46 rfl hlk_375 rfl (ty := .int) (v := .int z_9) (by decide +kernel) rfl rfl (⟨_, rfl, by omega, by omega⟩) rfl (L1 := [(r0, 15, 45, .ref line_7)]) [0] rfl rfl rfl dX13_put_27 (fun H_10 locs_10 hh_10 => ?_)
    clear hh_8
    rw [hQ]
    exact W.vret hx hb hr (fun t ht hW => ⟨⟨(), rfl, trivial, hh_10.rt (M1 := []) [] rfl ht⟩, by rw [ht]; try exact hh_10.1.1, fun q h9 hq => by rw [ht]; try exact hh_10.1.2.1 q h9 hq⟩) hh_10.1.2.2 dX13_put_30
  · skip
    have c_4' : lines_3.toInt = 100000 := jb_ne_n (rfl) ((by decide)) c_4
    rw [hQ]
    exact W.vret hx hb hr (fun t ht hW => ⟨⟨(), rfl, trivial, hh_2.rt (M1 := []) [] rfl ht⟩, by rw [ht]; try exact hh_2.1.1, fun q h9 hq => by rw [ht]; try exact hh_2.1.2.1 q h9 hq⟩) hh_2.1.2.2 dX13_put_9
set_option maxHeartbeats 4000000 in
set_option maxRecDepth 20000 in
theorem uX13_words (l : Launch) (dC : Nat → ClassId) (dI : Nat → Nat → Nat) (ca : Nat → ClassId) (base : Nat) (B : jF) (hB : jBok B) (hAp : jAp (dC, dI)) (hB15 : ∀ n G a H, B 15 n G a H ↔ jOb (dC, dI) 15 50 (F15 n G) a H) (hB101 : ∀ n G a H, B 101 n G a H ↔ jAr (dC, dI) (ca 1) (fun j z => True) n a H) (G0 : jT) (H0 : Heap) (r0 : Nat) (r1 : Nat) (n1 : Nat) : Met l yX13_words (jw yX13_words cX13_words 3 none) ({ frames := 4, cells := 0, slots := 0, locals := 141 }) (va_Pc [.ref r0, .ref r1] (fun U => U.heap = H0 ∧ jX B base G0 [] H0 ∧ jG dC dI ca base U ∧ jStr base r1 n1 U H0 ∧ G0 r0 = some (15, 0) ∧ jP (dC, dI) G0 H0 [] ∧ n1 < 2147483648)) (va_Qv (S := Unit) (fun u => True) (fun u t => jRt (dC, dI) B base G0 EX13_words H0 [] t.heap) (jA base)) 0 0 (jA base) := by
  refine Met.ofW (cc := cX13_words) (maxL := 3) (ret := none) (by decide) rfl ?_
  intro p e s m args below meth c s₁ Bd hml hv
  obtain ⟨rfl, hH0, hX, hG, hstr_r1, hg_r0, hP0, hp0⟩ := hv
  have hK := hG.1
  have hx := Bd.exec
  have hb := Bd.bytes
  have hr := Bd.returns
  have hts := atoms_spec (ws := (jw yX13_words cX13_words 3 none)) Bd.pre
  have htw : ∀ w ∈ jWl, w.before _ s = true := fun w h => hts w (List.mem_cons_of_mem _ h)
  have hown : s.vm.findClass RX13 = some m.cls := findClass_of_methodNamed Bd.named
  have hlocks := Bd.notSynchronized
  obtain ⟨Q, hQ⟩ : ∃ Q, Q = MQ below (va_Qv (S := Unit) (fun u => True) (fun u t => jRt (dC, dI) B base G0 EX13_words H0 [] t.heap) (jA base)) ([.ref r0, .ref r1] : List Value).toArray s 0 0 (jA base) := ⟨_, rfl⟩
  rw [← hQ]
  have hl := lv_entry ([.ref r0, .ref r1]) (n := 3) (Nat.le_of_ble_eq_true rfl)
  rw [lg_entry_eq]
  generalize (lg_sl ([.ref r0, .ref r1]) ++ List.replicate (3 - (lg_sl ([.ref r0, .ref r1])).length) Slot.unset).toArray = ls at hl ⊢
  have hl : lv_has ls 3 [(0, .ref r0), (1, .ref r1)] := hl
  generalize hR : (headSpec (jw yX13_words cX13_words 3 none) ({ frames := 4, cells := 0, slots := 0, locals := 141 })).room = R
  subst hH0
  have hh : jSt (dC, dI) B base G0 G0 EX13_words s.heap 0 0 [] [] [] s.heap [] := jSt.start hX hP0 jMc.nil jIs.nil
  clear hX hP0
  have hk0 : (0 : Int32).toInt = 0 := by decide
  have hk1 : (1 : Int32).toInt = 1 := by decide
  refine lv_iconst (v := 0) hx hb dX13_words_0 (by decide) ?_
  refine lv_istore_n (lv' := [(2, .int 0), (0, .ref r0), (1, .ref r1)]) hx hb dX13_words_1 rfl hl (by decide) rfl (fun ls hl => ?_)
  have L2 : ∀ (N : Nat) (v2_1 : Int32) (H_1 : Heap) (locs_1 : List Loc), jSt (dC, dI) B base G0 G0 EX13_words s.heap 0 0 [] [] [] H_1 locs_1 → (0 ≤ v2_1.toInt ∧ v2_1.toInt ≤ n1) → (n1 - v2_1.toInt : Int) < N → ∀ ls : Array Slot, lv_has ls 3 [(0, .ref r0), (1, .ref r1), (2, .int v2_1)] → W p l e R s m ([.ref r0, .ref r1] : List Value).toArray below meth c H_1 locs_1 0 0 Q (F0 m 2 ls []) := by
    intro N
    induction N with
    | zero => intro v2_1 H_1 locs_1 hh_1  hi_1 hm; exact absurd hm (by omega)
    | succ N L2 =>
      intro v2_1 H_1 locs_1 hh_1  hi_1 hm_1 ls hl
      obtain ⟨hi_1_0, hi_1_1⟩ := hi_1
      refine lv_iload_n hx hb dX13_words_2 rfl (lv_at hl 2 rfl) ?_
      refine lv_aload_n hx hb dX13_words_3 rfl (lv_at hl 1 rfl) ?_
      refine vp_callSi (W.runV (As := []) (rest := [.int v2_1]) ⟨hx, hb, hml, hown, hts⟩ (wJ0_length_8abf5 l dC dI ca base H_1 r1 n1) (cwV 0 hts (jgV (jWr_61 _ (List.mem_of_getElem? (i := 4) rfl)) (jWr_5 _ (List.mem_of_getElem? (i := 13) rfl)) (jWr_5 _ (List.mem_of_getElem? (i := 14) rfl)) (jWr_5 _ (List.mem_of_getElem? (i := 15) rfl)) (jWr_5 _ (List.mem_of_getElem? (i := 16) rfl))) rfl rfl rfl (by decide +kernel) ⟨by rw [← hR]; exact Nat.le_of_ble_eq_true rfl, by rw [← hR]; exact Nat.le_of_ble_eq_true rfl⟩) ⟨fun a U g mk q => by obtain ⟨q0, q1, q2, qK, q9⟩ := q; exact ⟨q0, q1, (q2.moved (Vm.Alike.refl U.vm)), jG.calling g mk a qK, q9⟩, jStr_recv hstr_r1 hh_1.1, fun U hU hW => ⟨rfl, hU, (hstr_r1.moved hW.alike).kept hh_1.1.2.1, hG.step hW hU hh_1.1, by omega⟩⟩ rfl rfl hl.1 rfl (lv_room (Nat.le_of_ble_eq_true rfl)) dX13_words_4 ⟨Nat.zero_le _, Nat.zero_le _⟩) (fun r_2 hr_2 => ?_)
      refine lv_icmp_ge (tgt := 25) hx hb dX13_words_7 (by decide) (fun c_3 => ?_) (fun c_3 => ?_)
      · skip
        have c_3' : v2_1.toInt ≥ r_2.toInt := jb_ge (rfl) (rfl) c_3
        rw [hQ]
        exact W.vret hx hb hr (fun t ht hW => ⟨⟨(), rfl, trivial, hh_1.rt (M1 := []) [] rfl ht⟩, by rw [ht]; try exact hh_1.1.1, fun q h9 hq => by rw [ht]; try exact hh_1.1.2.1 q h9 hq⟩) hh_1.1.2.2 dX13_words_25
      · skip
        have c_3' : v2_1.toInt < r_2.toInt := jb_ge_n (rfl) (rfl) c_3
        refine lv_aload_n hx hb dX13_words_10 rfl (lv_at hl 0 rfl) ?_
        refine lv_aload_n hx hb dX13_words_11 rfl (lv_at hl 1 rfl) ?_
        refine lv_iload_n hx hb dX13_words_12 rfl (lv_at hl 2 rfl) ?_
        refine vp_callSi (W.runV (As := [.int v2_1]) (rest := [.ref r0]) ⟨hx, hb, hml, hown, hts⟩ (wJ0_charAt_5068e l dC dI ca base H_1 r1 n1 v2_1) (cwV 1 hts (jgV (jWr_61 _ (List.mem_of_getElem? (i := 6) rfl)) (jWr_6 _ (List.mem_of_getElem? (i := 1) rfl)) (jWr_6 _ (List.mem_of_getElem? (i := 2) rfl)) (jWr_5 _ (List.mem_of_getElem? (i := 15) rfl)) (jWr_6 _ (List.mem_of_getElem? (i := 3) rfl))) rfl rfl rfl (by decide +kernel) ⟨by rw [← hR]; exact Nat.le_of_ble_eq_true rfl, by rw [← hR]; exact Nat.le_of_ble_eq_true rfl⟩) ⟨fun a U g mk q => by obtain ⟨q0, q1, q2, qK, q9⟩ := q; exact ⟨q0, q1, (q2.moved (Vm.Alike.refl U.vm)), jG.calling g mk a qK, q9⟩, jStr_recv hstr_r1 hh_1.1, fun U hU hW => ⟨rfl, hU, (hstr_r1.moved hW.alike).kept hh_1.1.2.1, hG.step hW hU hh_1.1, ⟨by omega, by omega, by omega⟩⟩⟩ rfl rfl hl.1 rfl (lv_room (Nat.le_of_ble_eq_true rfl)) dX13_words_13 ⟨Nat.zero_le _, Nat.zero_le _⟩) (fun r_4 hr_4 => ?_)
        refine va_callv (A0 := jA base) (H0 := s.heap) (va_runV (As := [.int r_4]) (rest := []) ⟨hx, hb, hml, hown, hts⟩ (uX13_put l dC dI ca base B hB hAp hB15 hB101 G0 H_1 r0 r_4) (cwV 1 hts (jgV (jWr_70 _ (List.mem_of_getElem? (i := 6) rfl)) (jWr_70 _ (List.mem_of_getElem? (i := 7) rfl)) (jWr_70 _ (List.mem_of_getElem? (i := 8) rfl)) (jWr_12 _ (List.mem_of_getElem? (i := 12) rfl)) (jWr_70 _ (List.mem_of_getElem? (i := 9) rfl))) rfl rfl rfl (by decide +kernel) ⟨by rw [← hR]; exact Nat.le_of_ble_eq_true rfl, by rw [← hR]; exact Nat.le_of_ble_eq_true rfl⟩) ⟨fun a U g mk q => by obtain ⟨q0, q1, q2, qK, q10, q11, q12⟩ := q; exact ⟨q0, q1, q2, jG.calling g mk a qK, q10, q11, q12⟩, hh_1.recv (C := RX13) (T := TX13) (N := 50) hB15 rfl (by decide) hg_r0 hK, fun U hU hW => ⟨rfl, hU, hh_1.2.1, hG.step hW hU hh_1.1, hg_r0, jP.nil, trivial⟩⟩ rfl rfl hl.1 rfl (lv_room (Nat.le_of_ble_eq_true rfl)) dX13_words_16 ⟨Nat.zero_le _, Nat.zero_le _⟩) hh_1.1 (fun q _ h => h) (fun q h => h) (fun u_5 t_5 H_5 locs_5 ht_5 hvm_5 hr_6 hb_5 hz_5 hk_5 hS_5 => ?_)
        rw [ht_5] at hb_5
        obtain ⟨hb_51, hb_52, hb_53, hb_54, hb_55⟩ := hb_5
        have hh_5 : jSt (dC, dI) B base G0 G0 EX13_words s.heap 0 0 [] [] [] H_5 locs_5 := ((hh_1.call hb_51 hb_52 hb_53 hb_54 hS_5 rfl (L1 := []) [] rfl rfl (M1 := []) [] rfl rfl (I1 := []) [] rfl rfl).more hb_55)
        clear hh_1 ht_5 hvm_5 hz_5 hk_5 hS_5 hb_51 hb_52 hb_53 hb_54 hb_55
        obtain ⟨z_7, ez_7⟩ : ∃ y : Int32, y = v2_1 + 1 := ⟨_, rfl⟩
        refine lv_iinc (v := z_7) (lv' := [(2, .int z_7), (0, .ref r0), (1, .ref r1)]) hx hb dX13_words_19 hl (k := 2) rfl (by rw [ez_7]; rfl) (by decide) rfl (fun ls hl => ?_)
        have hz_7 : z_7.toInt = v2_1.toInt + 1 := by rw [ez_7]; exact jb_iadd2 (rfl) (by decide) (by omega)
        refine lv_goto (tgt := 2) hx hb dX13_words_22 (by decide) ?_
        exact L2 z_7 _ _ hh_5 (by first | omega | (refine ⟨?_, ?_⟩ <;> (first | omega | rfl | assumption | decide | exact Or.inl rfl | exact Or.inr rfl | (simp only; omega)))) (by omega) _ (lv_sub hl [1, 2, 0] rfl)
  exact L2 (n1 - (0 : Int32).toInt : Int).toNat.succ 0 _ _ hh (by first | omega | (refine ⟨?_, ?_⟩ <;> (first | omega | rfl | assumption | decide | exact Or.inl rfl | exact Or.inr rfl | (simp only; omega)))) (by omega) _ (lv_sub hl [1, 2, 0] rfl)
set_option maxHeartbeats 4000000 in
set_option maxRecDepth 20000 in
theorem uX13_putName (l : Launch) (dC : Nat → ClassId) (dI : Nat → Nat → Nat) (ca : Nat → ClassId) (base : Nat) (B : jF) (hB : jBok B) (hAp : jAp (dC, dI)) (hB15 : ∀ n G a H, B 15 n G a H ↔ jOb (dC, dI) 15 50 (F15 n G) a H) (hB101 : ∀ n G a H, B 101 n G a H ↔ jAr (dC, dI) (ca 1) (fun j z => True) n a H) (hB155 : ∀ n G a H, B 155 n G a H ↔ jAr (dC, dI) (ca 1) (fun j z => 0 ≤ z.toInt ∧ z.toInt ≤ 11990) n a H) (hB156 : ∀ n G a H, B 156 n G a H ↔ jAr (dC, dI) (ca 1) (fun j z => 0 ≤ z.toInt ∧ z.toInt ≤ 10) n a H) (hB166 : ∀ n G a H, B 166 n G a H ↔ jAr (dC, dI) (ca 1) (fun j z => True) n a H) (G0 : jT) (H0 : Heap) (r0 : Nat) (a1 : Int32) : Met l yX13_putName (jw yX13_putName cX13_putName 3 none) ({ frames := 1, cells := 0, slots := 0, locals := 21 }) (va_Pc [.ref r0, .int a1] (fun U => U.heap = H0 ∧ jX B base G0 [] H0 ∧ jG dC dI ca base U ∧ G0 r0 = some (15, 0) ∧ jP (dC, dI) G0 H0 [] ∧ 0 ≤ a1.toInt ∧ a1.toInt ≤ 1599)) (va_Qv (S := Unit) (fun u => True) (fun u t => jRt (dC, dI) B base G0 EX13_putName H0 [] t.heap) (jA base)) 0 0 (jA base) := by
  refine Met.ofW (cc := cX13_putName) (maxL := 3) (ret := none) (by decide) rfl ?_
  intro p e s m args below meth c s₁ Bd hml hv
  obtain ⟨rfl, hH0, hX, hG, hg_r0, hP0, hp0, hp1⟩ := hv
  have hK := hG.1
  have hx := Bd.exec
  have hb := Bd.bytes
  have hr := Bd.returns
  have hts := atoms_spec (ws := (jw yX13_putName cX13_putName 3 none)) Bd.pre
  have htw : ∀ w ∈ jWl, w.before _ s = true := fun w h => hts w (List.mem_cons_of_mem _ h)
  have hown : s.vm.findClass RX13 = some m.cls := findClass_of_methodNamed Bd.named
  have hlocks := Bd.notSynchronized
  obtain ⟨Q, hQ⟩ : ∃ Q, Q = MQ below (va_Qv (S := Unit) (fun u => True) (fun u t => jRt (dC, dI) B base G0 EX13_putName H0 [] t.heap) (jA base)) ([.ref r0, .int a1] : List Value).toArray s 0 0 (jA base) := ⟨_, rfl⟩
  rw [← hQ]
  have hl := lv_entry ([.ref r0, .int a1]) (n := 3) (Nat.le_of_ble_eq_true rfl)
  rw [lg_entry_eq]
  generalize (lg_sl ([.ref r0, .int a1]) ++ List.replicate (3 - (lg_sl ([.ref r0, .int a1])).length) Slot.unset).toArray = ls at hl ⊢
  have hl : lv_has ls 3 [(0, .ref r0), (1, .int a1)] := hl
  generalize hR : (headSpec (jw yX13_putName cX13_putName 3 none) ({ frames := 1, cells := 0, slots := 0, locals := 21 })).room = R
  subst hH0
  have hh : jSt (dC, dI) B base G0 G0 EX13_putName s.heap 0 0 [] [] [] s.heap [] := jSt.start hX hP0 jMc.nil jIs.nil
  clear hX hP0
  have hk0 : (0 : Int32).toInt = 0 := by decide
  have hk1 : (1 : Int32).toInt = 1 := by decide
  have hly_15_6 := htw (u_lay RX13 TX13 6) (jWc_wsX130 _ (u_in_lay (by decide)))
  have hly_15_8 := htw (u_lay RX13 TX13 8) (jWc_wsX130 _ (u_in_lay (by decide)))
  have hly_15_9 := htw (u_lay RX13 TX13 9) (jWc_wsX130 _ (u_in_lay (by decide)))
  have hlk_34 := (htw (.fieldLink RX13 34 "ProofServerModel$Kernel" "nameLength" "[I") (jWr_14 _ (List.mem_of_getElem? (i := 16) rfl)))
  have hlk_28 := (htw (.fieldLink RX13 28 "ProofServerModel$Kernel" "signs" "[I") (jWr_14 _ (List.mem_of_getElem? (i := 14) rfl)))
  have hlk_31 := (htw (.fieldLink RX13 31 "ProofServerModel$Kernel" "nameAt" "[I") (jWr_14 _ (List.mem_of_getElem? (i := 15) rfl)))
  have hrg_a1 := jb_rng a1
  refine lv_iconst (v := 0) hx hb dX13_putName_0 (by decide) ?_
  refine lv_istore_n (lv' := [(2, .int 0), (0, .ref r0), (1, .int a1)]) hx hb dX13_putName_1 rfl hl (by decide) rfl (fun ls hl => ?_)
  have L2 : ∀ (N : Nat) (v2_1 : Int32) (H_1 : Heap) (locs_1 : List Loc), jSt (dC, dI) B base G0 G0 EX13_putName s.heap 0 0 [] [] [] H_1 locs_1 → (0 ≤ v2_1.toInt ∧ v2_1.toInt ≤ 10) → (10 - v2_1.toInt : Int) < N → ∀ ls : Array Slot, lv_has ls 3 [(0, .ref r0), (1, .int a1), (2, .int v2_1)] → W p l e R s m ([.ref r0, .int a1] : List Value).toArray below meth c H_1 locs_1 0 0 Q (F0 m 2 ls []) := by
    intro N
    induction N with
    | zero => intro v2_1 H_1 locs_1 hh_1  hi_1 hm; exact absurd hm (by omega)
    | succ N L2 =>
      intro v2_1 H_1 locs_1 hh_1  hi_1 hm_1 ls hl
      obtain ⟨hi_1_0, hi_1_1⟩ := hi_1
      refine lv_iload_n hx hb dX13_putName_2 rfl (lv_at hl 2 rfl) ?_
      refine lv_aload_n hx hb dX13_putName_3 rfl (lv_at hl 0 rfl) ?_
      obtain ⟨v_2, hv_2, hh_3⟩ := hh_1.pin (C := RX13) (T := TX13) (N := 50) hB15 rfl (by decide) hg_r0 (i := 9) (by decide) rfl
      clear hh_1
      obtain ⟨nameLength_4, rfl, hg_nameLength_4⟩ := hv_2
      refine j7_read hx hb hown hK (C := RX13) (T := TX13) (N := 50) rfl hly_15_9 hlk_34 (hh_3.at 0 rfl) dX13_putName_4 ?_
      refine lv_iload_n hx hb dX13_putName_7 rfl (lv_at hl 1 rfl) ?_
      refine j7_iald hx hb hK hh_3 hB156 1 rfl (by decide) hg_nameLength_4 (x := a1.toInt) (rfl) (by omega) dX13_putName_8 (fun z_5 (hz_5 : 0 ≤ z_5.toInt ∧ z_5.toInt ≤ 10) => ?_)
      refine lv_icmp_ge (tgt := 35) hx hb dX13_putName_9 (by decide) (fun c_6 => ?_) (fun c_6 => ?_)
      · skip
        have c_6' : v2_1.toInt ≥ z_5.toInt := jb_ge (rfl) (rfl) c_6
        rw [hQ]
        exact W.vret hx hb hr (fun t ht hW => ⟨⟨(), rfl, trivial, hh_3.rt (M1 := []) [] rfl ht⟩, by rw [ht]; try exact hh_3.1.1, fun q h9 hq => by rw [ht]; try exact hh_3.1.2.1 q h9 hq⟩) hh_3.1.2.2 dX13_putName_35
      · skip
        have c_6' : v2_1.toInt < z_5.toInt := jb_ge_n (rfl) (rfl) c_6
        refine lv_aload_n hx hb dX13_putName_12 rfl (lv_at hl 0 rfl) ?_
        refine lv_aload_n hx hb dX13_putName_13 rfl (lv_at hl 0 rfl) ?_
        obtain ⟨v_7, hv_7, hh_8⟩ := hh_3.pin (C := RX13) (T := TX13) (N := 50) hB15 rfl (by decide) hg_r0 (i := 6) (by decide) rfl
        clear hh_3
        obtain ⟨signs_9, rfl, hg_signs_9⟩ := hv_7
        refine j7_read hx hb hown hK (C := RX13) (T := TX13) (N := 50) rfl hly_15_6 hlk_28 (hh_8.at 0 rfl) dX13_putName_14 ?_
        refine lv_aload_n hx hb dX13_putName_17 rfl (lv_at hl 0 rfl) ?_
        obtain ⟨v_10, hv_10, hh_11⟩ := hh_8.pin (C := RX13) (T := TX13) (N := 50) hB15 rfl (by decide) hg_r0 (i := 8) (by decide) rfl
        clear hh_8
        obtain ⟨nameAt_12, rfl, hg_nameAt_12⟩ := hv_10
        refine j7_read hx hb hown hK (C := RX13) (T := TX13) (N := 50) rfl hly_15_8 hlk_31 (hh_11.at 0 rfl) dX13_putName_18 ?_
        refine lv_iload_n hx hb dX13_putName_21 rfl (lv_at hl 1 rfl) ?_
        refine j7_iald hx hb hK hh_11 hB155 1 rfl (by decide) hg_nameAt_12 (x := a1.toInt) (rfl) (by omega) dX13_putName_22 (fun z_13 (hz_13 : 0 ≤ z_13.toInt ∧ z_13.toInt ≤ 11990) => ?_)
        refine lv_iload_n hx hb dX13_putName_23 rfl (lv_at hl 2 rfl) ?_
        refine lv_iadd hx hb dX13_putName_24 ?_
        refine lv_topi (fun z_14 ez_14 => ?_)
        have hz_14 : z_14.toInt = z_13.toInt + v2_1.toInt := by rw [ez_14]; exact jb_iadd2 (rfl) (rfl) (by omega)
        refine j7_iald hx hb hK hh_11 hB166 1 rfl (by decide) hg_signs_9 (x := z_14.toInt) (rfl) (by omega) dX13_putName_25 (fun z_15 (hz_15 : True) => ?_)
        refine va_callv (A0 := jA base) (H0 := s.heap) (va_runV (As := [.int z_15]) (rest := []) ⟨hx, hb, hml, hown, hts⟩ (uX13_put l dC dI ca base B hB hAp hB15 hB101 G0 H_1 r0 z_15) (cwV 1 hts (jgV (jWr_70 _ (List.mem_of_getElem? (i := 6) rfl)) (jWr_70 _ (List.mem_of_getElem? (i := 7) rfl)) (jWr_70 _ (List.mem_of_getElem? (i := 8) rfl)) (jWr_12 _ (List.mem_of_getElem? (i := 12) rfl)) (jWr_70 _ (List.mem_of_getElem? (i := 9) rfl))) rfl rfl rfl (by decide +kernel) ⟨by rw [← hR]; exact Nat.le_of_ble_eq_true rfl, by rw [← hR]; exact Nat.le_of_ble_eq_true rfl⟩) ⟨fun a U g mk q => by obtain ⟨q0, q1, q2, qK, q10, q11, q12⟩ := q; exact ⟨q0, q1, q2, jG.calling g mk a qK, q10, q11, q12⟩, hh_11.recv (C := RX13) (T := TX13) (N := 50) hB15 rfl (by decide) hg_r0 hK, fun U hU hW => ⟨rfl, hU, hh_11.2.1, hG.step hW hU hh_11.1, hg_r0, jP.nil, trivial⟩⟩ rfl rfl hl.1 rfl (lv_room (Nat.le_of_ble_eq_true rfl)) dX13_putName_26 ⟨Nat.zero_le _, Nat.zero_le _⟩) hh_11.1 (fun q _ h => h) (fun q h => h) (fun u_16 t_16 H_16 locs_16 ht_16 hvm_16 hr_17 hb_16 hz_16 hk_16 hS_16 => ?_)
        rw [ht_16] at hb_16
        obtain ⟨hb_161, hb_162, hb_163, hb_164, hb_165⟩ := hb_16
        have hh_16 : jSt (dC, dI) B base G0 G0 EX13_putName s.heap 0 0 [(r0, 15, 8, .ref nameAt_12), (r0, 15, 6, .ref signs_9), (r0, 15, 9, .ref nameLength_4)] [] [] H_16 locs_16 := ((hh_11.call hb_161 hb_162 hb_163 hb_164 hS_16 rfl (L1 := [(r0, 15, 8, .ref nameAt_12), (r0, 15, 6, .ref signs_9), (r0, 15, 9, .ref nameLength_4)]) [0, 1, 2] rfl rfl (M1 := []) [] rfl rfl (I1 := []) [] rfl rfl).more hb_165)
        clear hh_11 ht_16 hvm_16 hz_16 hk_16 hS_16 hb_161 hb_162 hb_163 hb_164 hb_165
        obtain ⟨z_18, ez_18⟩ : ∃ y : Int32, y = v2_1 + 1 := ⟨_, rfl⟩
        refine lv_iinc (v := z_18) (lv' := [(2, .int z_18), (0, .ref r0), (1, .int a1)]) hx hb dX13_putName_29 hl (k := 2) rfl (by rw [ez_18]; rfl) (by decide) rfl (fun ls hl => ?_)
        have hz_18 : z_18.toInt = v2_1.toInt + 1 := by rw [ez_18]; exact jb_iadd2 (rfl) (by decide) (by omega)
        refine lv_goto (tgt := 2) hx hb dX13_putName_32 (by decide) ?_
        exact L2 z_18 _ _ (hh_16.sub (L1 := []) [] rfl (M1 := []) [] rfl (I1 := []) [] rfl) (by first | omega | (refine ⟨?_, ?_⟩ <;> (first | omega | rfl | assumption | decide | exact Or.inl rfl | exact Or.inr rfl | (simp only; omega)))) (by omega) _ (lv_sub hl [1, 2, 0] rfl)
  exact L2 (10 - (0 : Int32).toInt : Int).toNat.succ 0 _ _ hh (by first | omega | (refine ⟨?_, ?_⟩ <;> (first | omega | rfl | assumption | decide | exact Or.inl rfl | exact Or.inr rfl | (simp only; omega)))) (by omega) _ (lv_sub hl [1, 2, 0] rfl)
set_option maxHeartbeats 4000000 in
set_option maxRecDepth 20000 in
theorem uX13_putBound (l : Launch) (dC : Nat → ClassId) (dI : Nat → Nat → Nat) (ca : Nat → ClassId) (base : Nat) (B : jF) (hB : jBok B) (hAp : jAp (dC, dI)) (hB15 : ∀ n G a H, B 15 n G a H ↔ jOb (dC, dI) 15 50 (F15 n G) a H) (hB101 : ∀ n G a H, B 101 n G a H ↔ jAr (dC, dI) (ca 1) (fun j z => True) n a H) (hB155 : ∀ n G a H, B 155 n G a H ↔ jAr (dC, dI) (ca 1) (fun j z => 0 ≤ z.toInt ∧ z.toInt ≤ 11990) n a H) (hB156 : ∀ n G a H, B 156 n G a H ↔ jAr (dC, dI) (ca 1) (fun j z => 0 ≤ z.toInt ∧ z.toInt ≤ 10) n a H) (hB163 : ∀ n G a H, B 163 n G a H ↔ jAr (dC, dI) (ca 1) (fun j z => 0 ≤ z.toInt ∧ z.toInt ≤ 1599) n a H) (hB164 : ∀ n G a H, B 164 n G a H ↔ jAr (dC, dI) (ca 1) (fun j z => 0 ≤ z.toInt ∧ z.toInt ≤ 100000) n a H) (hB166 : ∀ n G a H, B 166 n G a H ↔ jAr (dC, dI) (ca 1) (fun j z => True) n a H) (G0 : jT) (H0 : Heap) (r0 : Nat) (a1 : Int32) : Met l yX13_putBound (jw yX13_putBound cX13_putBound 3 none) ({ frames := 2, cells := 0, slots := 0, locals := 43 }) (va_Pc [.ref r0, .int a1] (fun U => U.heap = H0 ∧ jX B base G0 [] H0 ∧ jG dC dI ca base U ∧ G0 r0 = some (15, 0) ∧ jP (dC, dI) G0 H0 [] ∧ 0 ≤ a1.toInt ∧ a1.toInt ≤ 99)) (va_Qv (S := Unit) (fun u => True) (fun u t => jRt (dC, dI) B base G0 EX13_putBound H0 [] t.heap) (jA base)) 0 0 (jA base) := by
  refine Met.ofW (cc := cX13_putBound) (maxL := 3) (ret := none) (by decide) rfl ?_
  intro p e s m args below meth c s₁ Bd hml hv
  obtain ⟨rfl, hH0, hX, hG, hg_r0, hP0, hp0, hp1⟩ := hv
  have hK := hG.1
  have hx := Bd.exec
  have hb := Bd.bytes
  have hr := Bd.returns
  have hts := atoms_spec (ws := (jw yX13_putBound cX13_putBound 3 none)) Bd.pre
  have htw : ∀ w ∈ jWl, w.before _ s = true := fun w h => hts w (List.mem_cons_of_mem _ h)
  have hown : s.vm.findClass RX13 = some m.cls := findClass_of_methodNamed Bd.named
  have hlocks := Bd.notSynchronized
  obtain ⟨Q, hQ⟩ : ∃ Q, Q = MQ below (va_Qv (S := Unit) (fun u => True) (fun u t => jRt (dC, dI) B base G0 EX13_putBound H0 [] t.heap) (jA base)) ([.ref r0, .int a1] : List Value).toArray s 0 0 (jA base) := ⟨_, rfl⟩
  rw [← hQ]
  have hl := lv_entry ([.ref r0, .int a1]) (n := 3) (Nat.le_of_ble_eq_true rfl)
  rw [lg_entry_eq]
  generalize (lg_sl ([.ref r0, .int a1]) ++ List.replicate (3 - (lg_sl ([.ref r0, .int a1])).length) Slot.unset).toArray = ls at hl ⊢
  have hl : lv_has ls 3 [(0, .ref r0), (1, .int a1)] := hl
  generalize hR : (headSpec (jw yX13_putBound cX13_putBound 3 none) ({ frames := 2, cells := 0, slots := 0, locals := 43 })).room = R
  subst hH0
  have hh : jSt (dC, dI) B base G0 G0 EX13_putBound s.heap 0 0 [] [] [] s.heap [] := jSt.start hX hP0 jMc.nil jIs.nil
  clear hX hP0
  have hk0 : (0 : Int32).toInt = 0 := by decide
  have hk1 : (1 : Int32).toInt = 1 := by decide
  have hk39 : (39 : Int32).toInt = 39 := by decide
  have hly_15_47 := htw (u_lay RX13 TX13 47) (jWc_wsX130 _ (u_in_lay (by decide)))
  have hly_15_48 := htw (u_lay RX13 TX13 48) (jWc_wsX130 _ (u_in_lay (by decide)))
  have hlk_93 := (htw (.fieldLink RX13 93 "ProofServerModel$Kernel" "writtenName" "[I") (jWr_15 _ (List.mem_of_getElem? (i := 12) rfl)))
  have hlk_96 := (htw (.fieldLink RX13 96 "ProofServerModel$Kernel" "writtenMarks" "[I") (jWr_15 _ (List.mem_of_getElem? (i := 13) rfl)))
  have hrg_a1 := jb_rng a1
  refine lv_aload_n hx hb dX13_putBound_0 rfl (lv_at hl 0 rfl) ?_
  refine lv_aload_n hx hb dX13_putBound_1 rfl (lv_at hl 0 rfl) ?_
  obtain ⟨v_1, hv_1, hh_2⟩ := hh.pin (C := RX13) (T := TX13) (N := 50) hB15 rfl (by decide) hg_r0 (i := 47) (by decide) rfl
  clear hh
  obtain ⟨writtenName_3, rfl, hg_writtenName_3⟩ := hv_1
  refine j7_read hx hb hown hK (C := RX13) (T := TX13) (N := 50) rfl hly_15_47 hlk_93 (hh_2.at 0 rfl) dX13_putBound_2 ?_
  refine lv_iload_n hx hb dX13_putBound_5 rfl (lv_at hl 1 rfl) ?_
  refine j7_iald hx hb hK hh_2 hB163 1 rfl (by decide) hg_writtenName_3 (x := a1.toInt) (rfl) (by omega) dX13_putBound_6 (fun z_4 (hz_4 : 0 ≤ z_4.toInt ∧ z_4.toInt ≤ 1599) => ?_)
  refine va_callv (A0 := jA base) (H0 := s.heap) (va_runV (As := [.int z_4]) (rest := []) ⟨hx, hb, hml, hown, hts⟩ (uX13_putName l dC dI ca base B hB hAp hB15 hB101 hB155 hB156 hB166 G0 s.heap r0 z_4) (cwV 1 hts (jgV (jWr_70 _ (List.mem_of_getElem? (i := 19) rfl)) (jWr_70 _ (List.mem_of_getElem? (i := 3) rfl)) (jWr_70 _ (List.mem_of_getElem? (i := 4) rfl)) (jWr_12 _ (List.mem_of_getElem? (i := 12) rfl)) (jWr_70 _ (List.mem_of_getElem? (i := 5) rfl))) rfl rfl rfl (by decide +kernel) ⟨by rw [← hR]; exact Nat.le_of_ble_eq_true rfl, by rw [← hR]; exact Nat.le_of_ble_eq_true rfl⟩) ⟨fun a U g mk q => by obtain ⟨q0, q1, q2, qK, q10, q11, q12⟩ := q; exact ⟨q0, q1, q2, jG.calling g mk a qK, q10, q11, q12⟩, hh_2.recv (C := RX13) (T := TX13) (N := 50) hB15 rfl (by decide) hg_r0 hK, fun U hU hW => ⟨rfl, hU, hh_2.2.1, hG.step hW hU hh_2.1, hg_r0, jP.nil, by first | omega | (refine ⟨?_, ?_⟩ <;> (first | omega | rfl | assumption | decide | exact Or.inl rfl | exact Or.inr rfl | (simp only; omega)))⟩⟩ rfl rfl hl.1 rfl (lv_room (Nat.le_of_ble_eq_true rfl)) dX13_putBound_7 ⟨Nat.zero_le _, Nat.zero_le _⟩) hh_2.1 (fun q _ h => h) (fun q h => h) (fun u_5 t_5 H_5 locs_5 ht_5 hvm_5 hr_6 hb_5 hz_5 hk_5 hS_5 => ?_)
  rw [ht_5] at hb_5
  obtain ⟨hb_51, hb_52, hb_53, hb_54, hb_55⟩ := hb_5
  have hh_5 : jSt (dC, dI) B base G0 G0 EX13_putBound s.heap 0 0 [(r0, 15, 47, .ref writtenName_3)] [] [] H_5 locs_5 := ((hh_2.call hb_51 hb_52 hb_53 hb_54 hS_5 rfl (L1 := [(r0, 15, 47, .ref writtenName_3)]) [0] rfl rfl (M1 := []) [] rfl rfl (I1 := []) [] rfl rfl).more hb_55)
  clear hh_2 ht_5 hvm_5 hz_5 hk_5 hS_5 hb_51 hb_52 hb_53 hb_54 hb_55
  refine lv_iconst (v := 0) hx hb dX13_putBound_10 (by decide) ?_
  refine lv_istore_n (lv' := [(2, .int 0), (0, .ref r0), (1, .int a1)]) hx hb dX13_putBound_11 rfl hl (by decide) rfl (fun ls hl => ?_)
  have L12 : ∀ (N : Nat) (v2_7 : Int32) (H_7 : Heap) (locs_7 : List Loc), jSt (dC, dI) B base G0 G0 EX13_putBound s.heap 0 0 [(r0, 15, 47, .ref writtenName_3)] [] [] H_7 locs_7 → (0 ≤ v2_7.toInt ∧ v2_7.toInt ≤ 100000) → (100000 - v2_7.toInt : Int) < N → ∀ ls : Array Slot, lv_has ls 3 [(0, .ref r0), (1, .int a1), (2, .int v2_7)] → W p l e R s m ([.ref r0, .int a1] : List Value).toArray below meth c H_7 locs_7 0 0 Q (F0 m 12 ls []) := by
    intro N
    induction N with
    | zero => intro v2_7 H_7 locs_7 hh_7  hi_7 hm; exact absurd hm (by omega)
    | succ N L12 =>
      intro v2_7 H_7 locs_7 hh_7  hi_7 hm_7 ls hl
      obtain ⟨hi_7_0, hi_7_1⟩ := hi_7
      refine lv_iload_n hx hb dX13_putBound_12 rfl (lv_at hl 2 rfl) ?_
      refine lv_aload_n hx hb dX13_putBound_13 rfl (lv_at hl 0 rfl) ?_
      obtain ⟨v_8, hv_8, hh_9⟩ := hh_7.pin (C := RX13) (T := TX13) (N := 50) hB15 rfl (by decide) hg_r0 (i := 48) (by decide) rfl
      clear hh_7
      obtain ⟨writtenMarks_10, rfl, hg_writtenMarks_10⟩ := hv_8
      refine j7_read hx hb hown hK (C := RX13) (T := TX13) (N := 50) rfl hly_15_48 hlk_96 (hh_9.at 0 rfl) dX13_putBound_14 ?_
      refine lv_iload_n hx hb dX13_putBound_17 rfl (lv_at hl 1 rfl) ?_
      refine j7_iald hx hb hK hh_9 hB164 1 rfl (by decide) hg_writtenMarks_10 (x := a1.toInt) (rfl) (by omega) dX13_putBound_18 (fun z_11 (hz_11 : 0 ≤ z_11.toInt ∧ z_11.toInt ≤ 100000) => ?_)
      refine lv_icmp_ge (tgt := 34) hx hb dX13_putBound_19 (by decide) (fun c_12 => ?_) (fun c_12 => ?_)
      · skip
        have c_12' : v2_7.toInt ≥ z_11.toInt := jb_ge (rfl) (rfl) c_12
        rw [hQ]
        exact W.vret hx hb hr (fun t ht hW => ⟨⟨(), rfl, trivial, hh_9.rt (M1 := []) [] rfl ht⟩, by rw [ht]; try exact hh_9.1.1, fun q h9 hq => by rw [ht]; try exact hh_9.1.2.1 q h9 hq⟩) hh_9.1.2.2 dX13_putBound_34
      · skip
        have c_12' : v2_7.toInt < z_11.toInt := jb_ge_n (rfl) (rfl) c_12
        refine lv_aload_n hx hb dX13_putBound_22 rfl (lv_at hl 0 rfl) ?_
        refine lv_bipush (v := 39) hx hb dX13_putBound_23 (by decide) ?_
        refine va_callv (A0 := jA base) (H0 := s.heap) (va_runV (As := [.int 39]) (rest := []) ⟨hx, hb, hml, hown, hts⟩ (uX13_put l dC dI ca base B hB hAp hB15 hB101 G0 H_7 r0 39) (cwV 1 hts (jgV (jWr_70 _ (List.mem_of_getElem? (i := 6) rfl)) (jWr_70 _ (List.mem_of_getElem? (i := 7) rfl)) (jWr_70 _ (List.mem_of_getElem? (i := 8) rfl)) (jWr_12 _ (List.mem_of_getElem? (i := 12) rfl)) (jWr_70 _ (List.mem_of_getElem? (i := 9) rfl))) rfl rfl rfl (by decide +kernel) ⟨by rw [← hR]; exact Nat.le_of_ble_eq_true rfl, by rw [← hR]; exact Nat.le_of_ble_eq_true rfl⟩) ⟨fun a U g mk q => by obtain ⟨q0, q1, q2, qK, q10, q11, q12⟩ := q; exact ⟨q0, q1, q2, jG.calling g mk a qK, q10, q11, q12⟩, hh_9.recv (C := RX13) (T := TX13) (N := 50) hB15 rfl (by decide) hg_r0 hK, fun U hU hW => ⟨rfl, hU, hh_9.2.1, hG.step hW hU hh_9.1, hg_r0, jP.nil, trivial⟩⟩ rfl rfl hl.1 rfl (lv_room (Nat.le_of_ble_eq_true rfl)) dX13_putBound_25 ⟨Nat.zero_le _, Nat.zero_le _⟩) hh_9.1 (fun q _ h => h) (fun q h => h) (fun u_13 t_13 H_13 locs_13 ht_13 hvm_13 hr_14 hb_13 hz_13 hk_13 hS_13 => ?_)
        rw [ht_13] at hb_13
        obtain ⟨hb_131, hb_132, hb_133, hb_134, hb_135⟩ := hb_13
        have hh_13 : jSt (dC, dI) B base G0 G0 EX13_putBound s.heap 0 0 [(r0, 15, 48, .ref writtenMarks_10), (r0, 15, 47, .ref writtenName_3)] [] [] H_13 locs_13 := ((hh_9.call hb_131 hb_132 hb_133 hb_134 hS_13 rfl (L1 := [(r0, 15, 48, .ref writtenMarks_10), (r0, 15, 47, .ref writtenName_3)]) [0, 1] rfl rfl (M1 := []) [] rfl rfl (I1 := []) [] rfl rfl).more hb_135)
        clear hh_9 ht_13 hvm_13 hz_13 hk_13 hS_13 hb_131 hb_132 hb_133 hb_134 hb_135
        obtain ⟨z_15, ez_15⟩ : ∃ y : Int32, y = v2_7 + 1 := ⟨_, rfl⟩
        refine lv_iinc (v := z_15) (lv' := [(2, .int z_15), (0, .ref r0), (1, .int a1)]) hx hb dX13_putBound_28 hl (k := 2) rfl (by rw [ez_15]; rfl) (by decide) rfl (fun ls hl => ?_)
        have hz_15 : z_15.toInt = v2_7.toInt + 1 := by rw [ez_15]; exact jb_iadd2 (rfl) (by decide) (by omega)
        refine lv_goto (tgt := 12) hx hb dX13_putBound_31 (by decide) ?_
        exact L12 z_15 _ _ (hh_13.sub (L1 := [(r0, 15, 47, .ref writtenName_3)]) [1] rfl (M1 := []) [] rfl (I1 := []) [] rfl) (by first | omega | (refine ⟨?_, ?_⟩ <;> (first | omega | rfl | assumption | decide | exact Or.inl rfl | exact Or.inr rfl | (simp only; omega)))) (by omega) _ (lv_sub hl [1, 2, 0] rfl)
  exact L12 (100000 - (0 : Int32).toInt : Int).toNat.succ 0 _ _ hh_5 (by first | omega | (refine ⟨?_, ?_⟩ <;> (first | omega | rfl | assumption | decide | exact Or.inl rfl | exact Or.inr rfl | (simp only; omega)))) (by omega) _ (lv_sub hl [1, 2, 0] rfl)
set_option maxHeartbeats 4000000 in
set_option maxRecDepth 20000 in
theorem uX13_areAlike (l : Launch) (dC : Nat → ClassId) (dI : Nat → Nat → Nat) (ca : Nat → ClassId) (base : Nat) (B : jF) (hB : jBok B) (hAp : jAp (dC, dI)) (hB15 : ∀ n G a H, B 15 n G a H ↔ jOb (dC, dI) 15 50 (F15 n G) a H) (hB155 : ∀ n G a H, B 155 n G a H ↔ jAr (dC, dI) (ca 1) (fun j z => 0 ≤ z.toInt ∧ z.toInt ≤ 11990) n a H) (hB156 : ∀ n G a H, B 156 n G a H ↔ jAr (dC, dI) (ca 1) (fun j z => 0 ≤ z.toInt ∧ z.toInt ≤ 10) n a H) (hB166 : ∀ n G a H, B 166 n G a H ↔ jAr (dC, dI) (ca 1) (fun j z => True) n a H) (G0 : jT) (H0 : Heap) (r0 : Nat) (a1 : Int32) (a2 : Int32) (a3 : Int32) (a4 : Int32) : Met l yX13_areAlike (jw yX13_areAlike cX13_areAlike 9 (some .boolean)) ({ frames := 0, cells := 0, slots := 0, locals := 0 }) (va_Pc [.ref r0, .int a1, .int a2, .int a3, .int a4] (fun U => U.heap = H0 ∧ jX B base G0 [] H0 ∧ jG dC dI ca base U ∧ G0 r0 = some (15, 0) ∧ jP (dC, dI) G0 H0 [] ∧ 0 ≤ a1.toInt ∧ a1.toInt ≤ 1599 ∧ 0 ≤ a3.toInt ∧ a3.toInt ≤ 1599 ∧ 0 ≤ a2.toInt ∧ a2.toInt ≤ 200000 ∧ 0 ≤ a4.toInt ∧ a4.toInt ≤ 200000)) (va_Qi (S := Unit) (fun r u => (r = 0 ∨ r = 1) ∧ (True)) (fun u t => jRt (dC, dI) B base G0 EX13_areAlike H0 [] t.heap) (jA base)) 0 0 (jA base) := by
  refine Met.ofW (cc := cX13_areAlike) (maxL := 9) (ret := (some .boolean)) (by decide) rfl ?_
  intro p e s m args below meth c s₁ Bd hml hv
  obtain ⟨rfl, hH0, hX, hG, hg_r0, hP0, hp0, hp1, hp2, hp3, hp4, hp5, hp6, hp7⟩ := hv
  have hK := hG.1
  have hx := Bd.exec
  have hb := Bd.bytes
  have hr := Bd.returns
  have hts := atoms_spec (ws := (jw yX13_areAlike cX13_areAlike 9 (some .boolean))) Bd.pre
  have htw : ∀ w ∈ jWl, w.before _ s = true := fun w h => hts w (List.mem_cons_of_mem _ h)
  have hown : s.vm.findClass RX13 = some m.cls := findClass_of_methodNamed Bd.named
  have hlocks := Bd.notSynchronized
  obtain ⟨Q, hQ⟩ : ∃ Q, Q = MQ below (va_Qi (S := Unit) (fun r u => (r = 0 ∨ r = 1) ∧ (True)) (fun u t => jRt (dC, dI) B base G0 EX13_areAlike H0 [] t.heap) (jA base)) ([.ref r0, .int a1, .int a2, .int a3, .int a4] : List Value).toArray s 0 0 (jA base) := ⟨_, rfl⟩
  rw [← hQ]
  have hl := lv_entry ([.ref r0, .int a1, .int a2, .int a3, .int a4]) (n := 9) (Nat.le_of_ble_eq_true rfl)
  rw [lg_entry_eq]
  generalize (lg_sl ([.ref r0, .int a1, .int a2, .int a3, .int a4]) ++ List.replicate (9 - (lg_sl ([.ref r0, .int a1, .int a2, .int a3, .int a4])).length) Slot.unset).toArray = ls at hl ⊢
  have hl : lv_has ls 9 [(0, .ref r0), (1, .int a1), (2, .int a2), (3, .int a3), (4, .int a4)] := hl
  generalize hR : (headSpec (jw yX13_areAlike cX13_areAlike 9 (some .boolean)) ({ frames := 0, cells := 0, slots := 0, locals := 0 })).room = R
  subst hH0
  have hh : jSt (dC, dI) B base G0 G0 EX13_areAlike s.heap 0 0 [] [] [] s.heap [] := jSt.start hX hP0 jMc.nil jIs.nil
  clear hX hP0
  have hk0 : (0 : Int32).toInt = 0 := by decide
  have hk1 : (1 : Int32).toInt = 1 := by decide
  have hk39 : (39 : Int32).toInt = 39 := by decide
  have hly_15_6 := htw (u_lay RX13 TX13 6) (jWc_wsX130 _ (u_in_lay (by decide)))
  have hly_15_8 := htw (u_lay RX13 TX13 8) (jWc_wsX130 _ (u_in_lay (by decide)))
  have hly_15_9 := htw (u_lay RX13 TX13 9) (jWc_wsX130 _ (u_in_lay (by decide)))
  have hlk_34 := (htw (.fieldLink RX13 34 "ProofServerModel$Kernel" "nameLength" "[I") (jWr_14 _ (List.mem_of_getElem? (i := 16) rfl)))
  have hlk_28 := (htw (.fieldLink RX13 28 "ProofServerModel$Kernel" "signs" "[I") (jWr_14 _ (List.mem_of_getElem? (i := 14) rfl)))
  have hlk_31 := (htw (.fieldLink RX13 31 "ProofServerModel$Kernel" "nameAt" "[I") (jWr_14 _ (List.mem_of_getElem? (i := 15) rfl)))
  have hrg_a1 := jb_rng a1
  have hrg_a2 := jb_rng a2
  have hrg_a3 := jb_rng a3
  have hrg_a4 := jb_rng a4
  refine lv_aload_n hx hb dX13_areAlike_0 rfl (lv_at hl 0 rfl) ?_
  obtain ⟨v_1, hv_1, hh_2⟩ := hh.pin (C := RX13) (T := TX13) (N := 50) hB15 rfl (by decide) hg_r0 (i := 9) (by decide) rfl
  clear hh
  obtain ⟨nameLength_3, rfl, hg_nameLength_3⟩ := hv_1
  refine j7_read hx hb hown hK (C := RX13) (T := TX13) (N := 50) rfl hly_15_9 hlk_34 (hh_2.at 0 rfl) dX13_areAlike_1 ?_
  refine lv_iload_n hx hb dX13_areAlike_4 rfl (lv_at hl 1 rfl) ?_
  refine j7_iald hx hb hK hh_2 hB156 1 rfl (by decide) hg_nameLength_3 (x := a1.toInt) (rfl) (by omega) dX13_areAlike_5 (fun z_4 (hz_4 : 0 ≤ z_4.toInt ∧ z_4.toInt ≤ 10) => ?_)
  refine lv_iload_n hx hb dX13_areAlike_6 rfl (lv_at hl 2 rfl) ?_
  refine lv_iadd hx hb dX13_areAlike_7 ?_
  refine lv_topi (fun z_5 ez_5 => ?_)
  have hz_5 : z_5.toInt = z_4.toInt + a2.toInt := by rw [ez_5]; exact jb_iadd2 (rfl) (rfl) (by omega)
  refine lv_istore (lv' := [(5, .int z_5), (0, .ref r0), (1, .int a1), (2, .int a2), (3, .int a3), (4, .int a4)]) hx hb dX13_areAlike_8 hl (by decide) rfl (fun ls hl => ?_)
  refine lv_iload hx hb dX13_areAlike_10 (lv_at hl 0 rfl) ?_
  refine lv_aload_n hx hb dX13_areAlike_12 rfl (lv_at hl 1 rfl) ?_
  refine j7_read hx hb hown hK (C := RX13) (T := TX13) (N := 50) rfl hly_15_9 hlk_34 (hh_2.at 0 rfl) dX13_areAlike_13 ?_
  refine lv_iload_n hx hb dX13_areAlike_16 rfl (lv_at hl 4 rfl) ?_
  refine j7_iald hx hb hK hh_2 hB156 1 rfl (by decide) hg_nameLength_3 (x := a3.toInt) (rfl) (by omega) dX13_areAlike_17 (fun z_6 (hz_6 : 0 ≤ z_6.toInt ∧ z_6.toInt ≤ 10) => ?_)
  refine lv_iload hx hb dX13_areAlike_18 (lv_at hl 5 rfl) ?_
  refine lv_iadd hx hb dX13_areAlike_20 ?_
  refine lv_topi (fun z_7 ez_7 => ?_)
  have hz_7 : z_7.toInt = z_6.toInt + a4.toInt := by rw [ez_7]; exact jb_iadd2 (rfl) (rfl) (by omega)
  refine lv_icmp_eq (tgt := 26) hx hb dX13_areAlike_21 (by decide) (fun c_8 => ?_) (fun c_8 => ?_)
  · skip
    have c_8' : z_5.toInt = z_7.toInt := jb_eq (rfl) (rfl) c_8
    refine lv_iconst (v := 0) hx hb dX13_areAlike_26 (by decide) ?_
    refine lv_istore (lv' := [(6, .int 0), (5, .int z_5), (0, .ref r0), (1, .int a1), (2, .int a2), (3, .int a3), (4, .int a4)]) hx hb dX13_areAlike_27 hl (by decide) rfl (fun ls hl => ?_)
    have L29 : ∀ (N : Nat) (v6_9 : Int32) (H_9 : Heap) (locs_9 : List Loc), jSt (dC, dI) B base G0 G0 EX13_areAlike s.heap 0 0 [(r0, 15, 9, .ref nameLength_3)] [] [] H_9 locs_9 → (0 ≤ v6_9.toInt) → (((z_5.toInt - v6_9.toInt).toNat : Int) : Int) < N → ∀ ls : Array Slot, lv_has ls 9 [(0, .ref r0), (1, .int a1), (2, .int a2), (3, .int a3), (4, .int a4), (5, .int z_5), (6, .int v6_9)] → W p l e R s m ([.ref r0, .int a1, .int a2, .int a3, .int a4] : List Value).toArray below meth c H_9 locs_9 0 0 Q (F0 m 29 ls []) := by
      intro N
      induction N with
      | zero => intro v6_9 H_9 locs_9 hh_9  hi_9 hm; exact absurd hm (by omega)
      | succ N L29 =>
        intro v6_9 H_9 locs_9 hh_9  hi_9 hm_9 ls hl
        refine lv_iload hx hb dX13_areAlike_29 (lv_at hl 6 rfl) ?_
        refine lv_iload hx hb dX13_areAlike_31 (lv_at hl 5 rfl) ?_
        refine lv_icmp_ge (tgt := 115) hx hb dX13_areAlike_33 (by decide) (fun c_10 => ?_) (fun c_10 => ?_)
        · skip
          have c_10' : v6_9.toInt ≥ z_5.toInt := jb_ge (rfl) (rfl) c_10
          refine lv_iconst (v := 1) hx hb dX13_areAlike_115 (by decide) ?_
          rw [hQ]
          exact W.zret (v := 1) hx hb hr (jb_nz (Or.inr rfl)) (fun t ht hW => ⟨⟨1, (), rfl, ⟨(Or.inr rfl), trivial⟩, hh_9.rt (M1 := []) [] rfl ht⟩, by rw [ht]; try exact hh_9.1.1, fun q h9 hq => by rw [ht]; try exact hh_9.1.2.1 q h9 hq⟩) hh_9.1.2.2 dX13_areAlike_116
        · skip
          have c_10' : v6_9.toInt < z_5.toInt := jb_ge_n (rfl) (rfl) c_10
          refine lv_iload hx hb dX13_areAlike_36 (lv_at hl 6 rfl) ?_
          refine lv_aload_n hx hb dX13_areAlike_38 rfl (lv_at hl 0 rfl) ?_
          refine j7_read hx hb hown hK (C := RX13) (T := TX13) (N := 50) rfl hly_15_9 hlk_34 (hh_9.at 0 rfl) dX13_areAlike_39 ?_
          refine lv_iload_n hx hb dX13_areAlike_42 rfl (lv_at hl 1 rfl) ?_
          refine j7_iald hx hb hK hh_9 hB156 1 rfl (by decide) hg_nameLength_3 (x := a1.toInt) (rfl) (by omega) dX13_areAlike_43 (fun z_11 (hz_11 : 0 ≤ z_11.toInt ∧ z_11.toInt ≤ 10) => ?_)
          have C66 : ∀ (w0_12 : Int32) (H_12 : Heap) (locs_12 : List Loc), jSt (dC, dI) B base G0 G0 EX13_areAlike s.heap 0 0 [(r0, 15, 9, .ref nameLength_3)] [] [] H_12 locs_12 → (True) → ∀ ls : Array Slot, lv_has ls 9 [(0, .ref r0), (1, .int a1), (2, .int a2), (3, .int a3), (4, .int a4), (5, .int z_5), (6, .int v6_9)] → W p l e R s m ([.ref r0, .int a1, .int a2, .int a3, .int a4] : List Value).toArray below meth c H_12 locs_12 0 0 Q (F0 m 66 ls [.int w0_12]) := by
            intro w0_12 H_12 locs_12 hh_12  hi_12 ls hl
            refine lv_istore (lv' := [(7, .int w0_12), (0, .ref r0), (1, .int a1), (2, .int a2), (3, .int a3), (4, .int a4), (5, .int z_5), (6, .int v6_9)]) hx hb dX13_areAlike_66 hl (by decide) rfl (fun ls hl => ?_)
            refine lv_iload hx hb dX13_areAlike_68 (lv_at hl 7 rfl) ?_
            refine lv_aload_n hx hb dX13_areAlike_70 rfl (lv_at hl 1 rfl) ?_
            refine j7_read hx hb hown hK (C := RX13) (T := TX13) (N := 50) rfl hly_15_9 hlk_34 (hh_12.at 0 rfl) dX13_areAlike_71 ?_
            refine lv_iload_n hx hb dX13_areAlike_74 rfl (lv_at hl 4 rfl) ?_
            refine j7_iald hx hb hK hh_12 hB156 1 rfl (by decide) hg_nameLength_3 (x := a3.toInt) (rfl) (by omega) dX13_areAlike_75 (fun z_13 (hz_13 : 0 ≤ z_13.toInt ∧ z_13.toInt ≤ 10) => ?_)
            refine lv_icmp_ge (tgt := 96) hx hb dX13_areAlike_76 (by decide) (fun c_14 => ?_) (fun c_14 => ?_)
            · skip
              have c_14' : v6_9.toInt ≥ z_13.toInt := jb_ge (rfl) (rfl) c_14
              refine lv_bipush (v := 39) hx hb dX13_areAlike_96 (by decide) ?_
              refine lv_istore (lv' := [(8, .int 39), (7, .int w0_12), (0, .ref r0), (1, .int a1), (2, .int a2), (3, .int a3), (4, .int a4), (5, .int z_5), (6, .int v6_9)]) hx hb dX13_areAlike_98 hl (by decide) rfl (fun ls hl => ?_)
              refine lv_iload hx hb dX13_areAlike_100 (lv_at hl 1 rfl) ?_
              refine lv_iload hx hb dX13_areAlike_102 (lv_at hl 0 rfl) ?_
              refine lv_icmp_eq (tgt := 109) hx hb dX13_areAlike_104 (by decide) (fun c_15 => ?_) (fun c_15 => ?_)
              · skip
                have c_15' : w0_12.toInt = 39 := jb_eq (rfl) ((by decide)) c_15
                obtain ⟨z_16, ez_16⟩ : ∃ y : Int32, y = v6_9 + 1 := ⟨_, rfl⟩
                refine lv_iinc (v := z_16) (lv' := [(6, .int z_16), (8, .int 39), (7, .int w0_12), (0, .ref r0), (1, .int a1), (2, .int a2), (3, .int a3), (4, .int a4), (5, .int z_5)]) hx hb dX13_areAlike_109 hl (k := 8) rfl (by rw [ez_16]; rfl) (by decide) rfl (fun ls hl => ?_)
                have hz_16 : z_16.toInt = v6_9.toInt + 1 := by rw [ez_16]; exact jb_iadd2 (rfl) (by decide) (by omega)
                refine lv_goto (tgt := 29) hx hb dX13_areAlike_112 (by decide) ?_
                exact L29 z_16 _ _ hh_12 (by first | omega | rfl | assumption | decide | exact Or.inl rfl | exact Or.inr rfl | (simp only; omega)) (by omega) _ (lv_sub hl [3, 4, 5, 6, 7, 8, 0] rfl)
              · skip
                have c_15' : w0_12.toInt ≠ 39 := jb_eq_n (rfl) ((by decide)) c_15
                refine lv_iconst (v := 0) hx hb dX13_areAlike_107 (by decide) ?_
                rw [hQ]
                exact W.zret (v := 0) hx hb hr (jb_nz (Or.inl rfl)) (fun t ht hW => ⟨⟨0, (), rfl, ⟨(Or.inl rfl), trivial⟩, hh_12.rt (M1 := []) [] rfl ht⟩, by rw [ht]; try exact hh_12.1.1, fun q h9 hq => by rw [ht]; try exact hh_12.1.2.1 q h9 hq⟩) hh_12.1.2.2 dX13_areAlike_108
            · skip
              have c_14' : v6_9.toInt < z_13.toInt := jb_ge_n (rfl) (rfl) c_14
              refine lv_aload_n hx hb dX13_areAlike_79 rfl (lv_at hl 1 rfl) ?_
              obtain ⟨v_17, hv_17, hh_18⟩ := hh_12.pin (C := RX13) (T := TX13) (N := 50) hB15 rfl (by decide) hg_r0 (i := 6) (by decide) rfl
              clear hh_12
              obtain ⟨signs_19, rfl, hg_signs_19⟩ := hv_17
              refine j7_read hx hb hown hK (C := RX13) (T := TX13) (N := 50) rfl hly_15_6 hlk_28 (hh_18.at 0 rfl) dX13_areAlike_80 ?_
              refine lv_aload_n hx hb dX13_areAlike_83 rfl (lv_at hl 1 rfl) ?_
              obtain ⟨v_20, hv_20, hh_21⟩ := hh_18.pin (C := RX13) (T := TX13) (N := 50) hB15 rfl (by decide) hg_r0 (i := 8) (by decide) rfl
              clear hh_18
              obtain ⟨nameAt_22, rfl, hg_nameAt_22⟩ := hv_20
              refine j7_read hx hb hown hK (C := RX13) (T := TX13) (N := 50) rfl hly_15_8 hlk_31 (hh_21.at 0 rfl) dX13_areAlike_84 ?_
              refine lv_iload_n hx hb dX13_areAlike_87 rfl (lv_at hl 4 rfl) ?_
              refine j7_iald hx hb hK hh_21 hB155 1 rfl (by decide) hg_nameAt_22 (x := a3.toInt) (rfl) (by omega) dX13_areAlike_88 (fun z_23 (hz_23 : 0 ≤ z_23.toInt ∧ z_23.toInt ≤ 11990) => ?_)
              refine lv_iload hx hb dX13_areAlike_89 (lv_at hl 7 rfl) ?_
              refine lv_iadd hx hb dX13_areAlike_91 ?_
              refine lv_topi (fun z_24 ez_24 => ?_)
              have hz_24 : z_24.toInt = z_23.toInt + v6_9.toInt := by rw [ez_24]; exact jb_iadd2 (rfl) (rfl) (by omega)
              refine j7_iald hx hb hK hh_21 hB166 1 rfl (by decide) hg_signs_19 (x := z_24.toInt) (rfl) (by omega) dX13_areAlike_92 (fun z_25 (hz_25 : True) => ?_)
              refine lv_goto (tgt := 98) hx hb dX13_areAlike_93 (by decide) ?_
              refine lv_istore (lv' := [(8, .int z_25), (7, .int w0_12), (0, .ref r0), (1, .int a1), (2, .int a2), (3, .int a3), (4, .int a4), (5, .int z_5), (6, .int v6_9)]) hx hb dX13_areAlike_98 hl (by decide) rfl (fun ls hl => ?_)
              refine lv_iload hx hb dX13_areAlike_100 (lv_at hl 1 rfl) ?_
              refine lv_iload hx hb dX13_areAlike_102 (lv_at hl 0 rfl) ?_
              refine lv_icmp_eq (tgt := 109) hx hb dX13_areAlike_104 (by decide) (fun c_26 => ?_) (fun c_26 => ?_)
              · skip
                have c_26' : w0_12.toInt = z_25.toInt := jb_eq (rfl) (rfl) c_26
                obtain ⟨z_27, ez_27⟩ : ∃ y : Int32, y = v6_9 + 1 := ⟨_, rfl⟩
                refine lv_iinc (v := z_27) (lv' := [(6, .int z_27), (8, .int z_25), (7, .int w0_12), (0, .ref r0), (1, .int a1), (2, .int a2), (3, .int a3), (4, .int a4), (5, .int z_5)]) hx hb dX13_areAlike_109 hl (k := 8) rfl (by rw [ez_27]; rfl) (by decide) rfl (fun ls hl => ?_)
                have hz_27 : z_27.toInt = v6_9.toInt + 1 := by rw [ez_27]; exact jb_iadd2 (rfl) (by decide) (by omega)
                refine lv_goto (tgt := 29) hx hb dX13_areAlike_112 (by decide) ?_
                exact L29 z_27 _ _ (hh_21.sub (L1 := [(r0, 15, 9, .ref nameLength_3)]) [2] rfl (M1 := []) [] rfl (I1 := []) [] rfl) (by first | omega | rfl | assumption | decide | exact Or.inl rfl | exact Or.inr rfl | (simp only; omega)) (by omega) _ (lv_sub hl [3, 4, 5, 6, 7, 8, 0] rfl)
              · skip
                have c_26' : w0_12.toInt ≠ z_25.toInt := jb_eq_n (rfl) (rfl) c_26
                refine lv_iconst (v := 0) hx hb dX13_areAlike_107 (by decide) ?_
                rw [hQ]
                exact W.zret (v := 0) hx hb hr (jb_nz (Or.inl rfl)) (fun t ht hW => ⟨⟨0, (), rfl, ⟨(Or.inl rfl), trivial⟩, hh_21.rt (M1 := []) [] rfl ht⟩, by rw [ht]; try exact hh_21.1.1, fun q h9 hq => by rw [ht]; try exact hh_21.1.2.1 q h9 hq⟩) hh_21.1.2.2 dX13_areAlike_108
          refine lv_icmp_ge (tgt := 64) hx hb dX13_areAlike_44 (by decide) (fun c_28 => ?_) (fun c_28 => ?_)
          · skip
            have c_28' : v6_9.toInt ≥ z_11.toInt := jb_ge (rfl) (rfl) c_28
            refine lv_bipush (v := 39) hx hb dX13_areAlike_64 (by decide) ?_
            exact C66 39 _ _ hh_9 (trivial) _ (lv_sub hl [0, 1, 2, 3, 4, 5, 6] rfl)
          · skip
            have c_28' : v6_9.toInt < z_11.toInt := jb_ge_n (rfl) (rfl) c_28
            refine lv_aload_n hx hb dX13_areAlike_47 rfl (lv_at hl 0 rfl) ?_
            obtain ⟨v_29, hv_29, hh_30⟩ := hh_9.pin (C := RX13) (T := TX13) (N := 50) hB15 rfl (by decide) hg_r0 (i := 6) (by decide) rfl
            clear hh_9
            obtain ⟨signs_31, rfl, hg_signs_31⟩ := hv_29
            refine j7_read hx hb hown hK (C := RX13) (T := TX13) (N := 50) rfl hly_15_6 hlk_28 (hh_30.at 0 rfl) dX13_areAlike_48 ?_
            refine lv_aload_n hx hb dX13_areAlike_51 rfl (lv_at hl 0 rfl) ?_
            obtain ⟨v_32, hv_32, hh_33⟩ := hh_30.pin (C := RX13) (T := TX13) (N := 50) hB15 rfl (by decide) hg_r0 (i := 8) (by decide) rfl
            clear hh_30
            obtain ⟨nameAt_34, rfl, hg_nameAt_34⟩ := hv_32
            refine j7_read hx hb hown hK (C := RX13) (T := TX13) (N := 50) rfl hly_15_8 hlk_31 (hh_33.at 0 rfl) dX13_areAlike_52 ?_
            refine lv_iload_n hx hb dX13_areAlike_55 rfl (lv_at hl 1 rfl) ?_
            refine j7_iald hx hb hK hh_33 hB155 1 rfl (by decide) hg_nameAt_34 (x := a1.toInt) (rfl) (by omega) dX13_areAlike_56 (fun z_35 (hz_35 : 0 ≤ z_35.toInt ∧ z_35.toInt ≤ 11990) => ?_)
            refine lv_iload hx hb dX13_areAlike_57 (lv_at hl 6 rfl) ?_
            refine lv_iadd hx hb dX13_areAlike_59 ?_
            refine lv_topi (fun z_36 ez_36 => ?_)
            have hz_36 : z_36.toInt = z_35.toInt + v6_9.toInt := by rw [ez_36]; exact jb_iadd2 (rfl) (rfl) (by omega)
            refine j7_iald hx hb hK hh_33 hB166 1 rfl (by decide) hg_signs_31 (x := z_36.toInt) (rfl) (by omega) dX13_areAlike_60 (fun z_37 (hz_37 : True) => ?_)
            refine lv_goto (tgt := 66) hx hb dX13_areAlike_61 (by decide) ?_
            exact C66 z_37 _ _ (hh_33.sub (L1 := [(r0, 15, 9, .ref nameLength_3)]) [2] rfl (M1 := []) [] rfl (I1 := []) [] rfl) (trivial) _ (lv_sub hl [0, 1, 2, 3, 4, 5, 6] rfl)
    exact L29 (((z_5.toInt - (0 : Int32).toInt).toNat : Int) : Int).toNat.succ 0 _ _ hh_2 (by first | omega | rfl | assumption | decide | exact Or.inl rfl | exact Or.inr rfl | (simp only; omega)) (by omega) _ (lv_sub hl [2, 3, 4, 5, 6, 1, 0] rfl)
  · skip
    have c_8' : z_5.toInt ≠ z_7.toInt := jb_eq_n (rfl) (rfl) c_8
    refine lv_iconst (v := 0) hx hb dX13_areAlike_24 (by decide) ?_
    rw [hQ]
    exact W.zret (v := 0) hx hb hr (jb_nz (Or.inl rfl)) (fun t ht hW => ⟨⟨0, (), rfl, ⟨(Or.inl rfl), trivial⟩, hh_2.rt (M1 := []) [] rfl ht⟩, by rw [ht]; try exact hh_2.1.1, fun q h9 hq => by rw [ht]; try exact hh_2.1.2.1 q h9 hq⟩) hh_2.1.2.2 dX13_areAlike_25
set_option maxHeartbeats 4000000 in
set_option maxRecDepth 20000 in
theorem uX13_formulaOf (l : Launch) (dC : Nat → ClassId) (dI : Nat → Nat → Nat) (ca : Nat → ClassId) (base : Nat) (B : jF) (hB : jBok B) (hAp : jAp (dC, dI)) (hB15 : ∀ n G a H, B 15 n G a H ↔ jOb (dC, dI) 15 50 (F15 n G) a H) (hB159 : ∀ n G a H, B 159 n G a H ↔ jAr (dC, dI) (ca 1) (fun j z => 0 ≤ z.toInt ∧ z.toInt ≤ 8) n a H) (hB160 : ∀ n G a H, B 160 n G a H ↔ jAr (dC, dI) (ca 1) (fun j z => 0 ≤ z.toInt ∧ z.toInt ≤ 119999) n a H) (hB162 : ∀ n G a H, B 162 n G a H ↔ jAr (dC, dI) (ca 1) (fun j z => 0 ≤ z.toInt ∧ z.toInt ≤ 119999) n a H) (hB163 : ∀ n G a H, B 163 n G a H ↔ jAr (dC, dI) (ca 1) (fun j z => 0 ≤ z.toInt ∧ z.toInt ≤ 1599) n a H) (G0 : jT) (H0 : Heap) (r0 : Nat) (a1 : Int32) : Met l yX13_formulaOf (jw yX13_formulaOf cX13_formulaOf 4 (some .int)) ({ frames := 1, cells := 0, slots := 0, locals := 22 }) (va_Pc [.ref r0, .int a1] (fun U => U.heap = H0 ∧ jX B base G0 [] H0 ∧ jG dC dI ca base U ∧ G0 r0 = some (15, 0) ∧ jP (dC, dI) G0 H0 [] ∧ True)) (va_Qi (S := Unit) (fun r u => (0 ≤ r.toInt ∧ r.toInt ≤ 119999)) (fun u t => jRt (dC, dI) B base G0 EX13_formulaOf H0 [] t.heap) (jA base)) 0 0 (jA base) := by
  refine Met.ofW (cc := cX13_formulaOf) (maxL := 4) (ret := (some .int)) (by decide) rfl ?_
  intro p e s m args below meth c s₁ Bd hml hv
  obtain ⟨rfl, hH0, hX, hG, hg_r0, hP0, hp0⟩ := hv
  have hK := hG.1
  have hx := Bd.exec
  have hb := Bd.bytes
  have hr := Bd.returns
  have hts := atoms_spec (ws := (jw yX13_formulaOf cX13_formulaOf 4 (some .int))) Bd.pre
  have htw : ∀ w ∈ jWl, w.before _ s = true := fun w h => hts w (List.mem_cons_of_mem _ h)
  have hown : s.vm.findClass RX13 = some m.cls := findClass_of_methodNamed Bd.named
  have hlocks := Bd.notSynchronized
  obtain ⟨Q, hQ⟩ : ∃ Q, Q = MQ below (va_Qi (S := Unit) (fun r u => (0 ≤ r.toInt ∧ r.toInt ≤ 119999)) (fun u t => jRt (dC, dI) B base G0 EX13_formulaOf H0 [] t.heap) (jA base)) ([.ref r0, .int a1] : List Value).toArray s 0 0 (jA base) := ⟨_, rfl⟩
  rw [← hQ]
  have hl := lv_entry ([.ref r0, .int a1]) (n := 4) (Nat.le_of_ble_eq_true rfl)
  rw [lg_entry_eq]
  generalize (lg_sl ([.ref r0, .int a1]) ++ List.replicate (4 - (lg_sl ([.ref r0, .int a1])).length) Slot.unset).toArray = ls at hl ⊢
  have hl : lv_has ls 4 [(0, .ref r0), (1, .int a1)] := hl
  generalize hR : (headSpec (jw yX13_formulaOf cX13_formulaOf 4 (some .int)) ({ frames := 1, cells := 0, slots := 0, locals := 22 })).room = R
  subst hH0
  have hh : jSt (dC, dI) B base G0 G0 EX13_formulaOf s.heap 0 0 [] [] [] s.heap [] := jSt.start hX hP0 jMc.nil jIs.nil
  clear hX hP0
  have hk0 : (0 : Int32).toInt = 0 := by decide
  have hk1 : (1 : Int32).toInt = 1 := by decide
  have hk5 : (5 : Int32).toInt = 5 := by decide
  have hly_15_17 := htw (u_lay RX13 TX13 17) (jWc_wsX130 _ (u_in_lay (by decide)))
  have hly_15_27 := htw (u_lay RX13 TX13 27) (jWc_wsX130 _ (u_in_lay (by decide)))
  have hlk_68 := (htw (.fieldLink RX13 68 "ProofServerModel$Kernel" "hyp" "[I") (jWr_15 _ (List.mem_of_getElem? (i := 3) rfl)))
  have hlk_50 := (htw (.fieldLink RX13 50 "ProofServerModel$Kernel" "fact" "[I") (jWr_14 _ (List.mem_of_getElem? (i := 21) rfl)))
  have hrg_a1 := jb_rng a1
  refine lv_aload_n hx hb dX13_formulaOf_0 rfl (lv_at hl 0 rfl) ?_
  refine lv_iload_n hx hb dX13_formulaOf_1 rfl (lv_at hl 1 rfl) ?_
  refine va_calli (A0 := jA base) (H0 := s.heap) (va_runV (As := [.int a1]) (rest := []) ⟨hx, hb, hml, hown, hts⟩ (uX13_hypOf l dC dI ca base B hB hAp hB15 hB159 hB163 G0 s.heap r0 a1) (cwV 1 hts (jgV (jWr_64 _ (List.mem_of_getElem? (i := 15) rfl)) (jWr_64 _ (List.mem_of_getElem? (i := 16) rfl)) (jWr_64 _ (List.mem_of_getElem? (i := 17) rfl)) (jWr_12 _ (List.mem_of_getElem? (i := 12) rfl)) (jWr_64 _ (List.mem_of_getElem? (i := 18) rfl))) rfl rfl rfl (by decide +kernel) ⟨by rw [← hR]; exact Nat.le_of_ble_eq_true rfl, by rw [← hR]; exact Nat.le_of_ble_eq_true rfl⟩) ⟨fun a U g mk q => by obtain ⟨q0, q1, q2, qK, q10, q11, q12⟩ := q; exact ⟨q0, q1, q2, jG.calling g mk a qK, q10, q11, q12⟩, hh.recv (C := RX13) (T := TX13) (N := 50) hB15 rfl (by decide) hg_r0 hK, fun U hU hW => ⟨rfl, hU, hh.2.1, hG.step hW hU hh.1, hg_r0, jP.nil, trivial⟩⟩ rfl rfl hl.1 rfl (lv_room (Nat.le_of_ble_eq_true rfl)) dX13_formulaOf_2 ⟨Nat.zero_le _, Nat.zero_le _⟩) hh.1 (fun q _ h => h) (fun q h => h) (fun r_2 u_1 t_1 H_1 locs_1 ht_1 hvm_1 hr_2 hb_1 hz_1 hk_1 hS_1 => ?_)
  rw [ht_1] at hb_1
  obtain ⟨hb_11, hb_12, hb_13, hb_14, hb_15⟩ := hb_1
  have hh_1 : jSt (dC, dI) B base G0 G0 EX13_formulaOf s.heap 0 0 [] [] [] H_1 locs_1 := ((hh.call hb_11 hb_12 hb_13 hb_14 hS_1 rfl (L1 := []) [] rfl rfl (M1 := []) [] rfl rfl (I1 := []) [] rfl rfl).more hb_15)
  clear hh ht_1 hvm_1 hz_1 hk_1 hS_1 hb_11 hb_12 hb_13 hb_14 hb_15
  obtain ⟨hr_2_0, hr_2_1⟩ := hr_2
  refine lv_istore_n (lv' := [(2, .int r_2), (0, .ref r0), (1, .int a1)]) hx hb dX13_formulaOf_5 rfl hl (by decide) rfl (fun ls hl => ?_)
  refine lv_iload_n hx hb dX13_formulaOf_6 rfl (lv_at hl 0 rfl) ?_
  refine lv_if_lt (tgt := 17) hx hb dX13_formulaOf_7 (by decide) (fun c_3 => ?_) (fun c_3 => ?_)
  · skip
    have c_3' : r_2.toInt < 0 := jb_lt (rfl) ((by decide)) c_3
    refine lv_aload_n hx hb dX13_formulaOf_17 rfl (lv_at hl 1 rfl) ?_
    refine lv_iload_n hx hb dX13_formulaOf_18 rfl (lv_at hl 2 rfl) ?_
    refine va_calli (A0 := jA base) (H0 := s.heap) (va_runV (As := [.int a1]) (rest := []) ⟨hx, hb, hml, hown, hts⟩ (uX13_factOf l dC dI ca base B hB hAp hB15 hB163 G0 H_1 r0 a1) (cwV 1 hts (jgV (jWr_64 _ (List.mem_of_getElem? (i := 7) rfl)) (jWr_64 _ (List.mem_of_getElem? (i := 8) rfl)) (jWr_64 _ (List.mem_of_getElem? (i := 9) rfl)) (jWr_12 _ (List.mem_of_getElem? (i := 12) rfl)) (jWr_64 _ (List.mem_of_getElem? (i := 10) rfl))) rfl rfl rfl (by decide +kernel) ⟨by rw [← hR]; exact Nat.le_of_ble_eq_true rfl, by rw [← hR]; exact Nat.le_of_ble_eq_true rfl⟩) ⟨fun a U g mk q => by obtain ⟨q0, q1, q2, qK, q10, q11, q12⟩ := q; exact ⟨q0, q1, q2, jG.calling g mk a qK, q10, q11, q12⟩, hh_1.recv (C := RX13) (T := TX13) (N := 50) hB15 rfl (by decide) hg_r0 hK, fun U hU hW => ⟨rfl, hU, hh_1.2.1, hG.step hW hU hh_1.1, hg_r0, jP.nil, trivial⟩⟩ rfl rfl hl.1 rfl (lv_room (Nat.le_of_ble_eq_true rfl)) dX13_formulaOf_19 ⟨Nat.zero_le _, Nat.zero_le _⟩) hh_1.1 (fun q _ h => h) (fun q h => h) (fun r_5 u_4 t_4 H_4 locs_4 ht_4 hvm_4 hr_5 hb_4 hz_4 hk_4 hS_4 => ?_)
    rw [ht_4] at hb_4
    obtain ⟨hb_41, hb_42, hb_43, hb_44, hb_45⟩ := hb_4
    have hh_4 : jSt (dC, dI) B base G0 G0 EX13_formulaOf s.heap 0 0 [] [] [] H_4 locs_4 := ((hh_1.call hb_41 hb_42 hb_43 hb_44 hS_4 rfl (L1 := []) [] rfl rfl (M1 := []) [] rfl rfl (I1 := []) [] rfl rfl).more hb_45)
    clear hh_1 ht_4 hvm_4 hz_4 hk_4 hS_4 hb_41 hb_42 hb_43 hb_44 hb_45
    obtain ⟨hr_5_0, hr_5_1⟩ := hr_5
    refine lv_istore_n (lv' := [(3, .int r_5), (2, .int r_2), (0, .ref r0), (1, .int a1)]) hx hb dX13_formulaOf_22 rfl hl (by decide) rfl (fun ls hl => ?_)
    refine lv_iload_n hx hb dX13_formulaOf_23 rfl (lv_at hl 0 rfl) ?_
    refine lv_if_ge (tgt := 32) hx hb dX13_formulaOf_24 (by decide) (fun c_6 => ?_) (fun c_6 => ?_)
    · skip
      have c_6' : r_5.toInt ≥ 0 := jb_ge (rfl) ((by decide)) c_6
      refine lv_iload_n hx hb dX13_formulaOf_32 rfl (lv_at hl 0 rfl) ?_
      refine lv_if_ge (tgt := 40) hx hb dX13_formulaOf_33 (by decide) (fun c_7 => ?_) (fun c_7 => ?_)
      · skip
        have c_7' : r_5.toInt ≥ 0 := jb_ge (rfl) ((by decide)) c_7
        refine lv_aload_n hx hb dX13_formulaOf_40 rfl (lv_at hl 2 rfl) ?_
        obtain ⟨v_8, hv_8, hh_9⟩ := hh_4.pin (C := RX13) (T := TX13) (N := 50) hB15 rfl (by decide) hg_r0 (i := 17) (by decide) rfl
        clear hh_4
        obtain ⟨fact_10, rfl, hg_fact_10⟩ := hv_8
        refine j7_read hx hb hown hK (C := RX13) (T := TX13) (N := 50) rfl hly_15_17 hlk_50 (hh_9.at 0 rfl) dX13_formulaOf_41 ?_
        refine lv_iload_n hx hb dX13_formulaOf_44 rfl (lv_at hl 0 rfl) ?_
        refine j7_iald hx hb hK hh_9 hB160 1 rfl (by decide) hg_fact_10 (x := r_5.toInt) (rfl) (by omega) dX13_formulaOf_45 (fun z_11 (hz_11 : 0 ≤ z_11.toInt ∧ z_11.toInt ≤ 119999) => ?_)
        rw [hQ]
        exact W.iret (v := z_11) hx hb hr (fun t ht hW => ⟨⟨z_11, (), rfl, by first | omega | (refine ⟨?_, ?_⟩ <;> (first | omega | rfl | assumption | decide | exact Or.inl rfl | exact Or.inr rfl | (simp only; omega))), hh_9.rt (M1 := []) [] rfl ht⟩, by rw [ht]; try exact hh_9.1.1, fun q h9 hq => by rw [ht]; try exact hh_9.1.2.1 q h9 hq⟩) hh_9.1.2.2 dX13_formulaOf_46
      · skip
        have c_7' : r_5.toInt < 0 := jb_ge_n (rfl) ((by decide)) c_7
        refine lv_iconst (v := 0) hx hb dX13_formulaOf_36 (by decide) ?_
        refine lv_goto (tgt := 46) hx hb dX13_formulaOf_37 (by decide) ?_
        rw [hQ]
        exact W.iret (v := 0) hx hb hr (fun t ht hW => ⟨⟨0, (), rfl, by first | omega | (refine ⟨?_, ?_⟩ <;> (first | omega | rfl | assumption | decide | exact Or.inl rfl | exact Or.inr rfl | (simp only; omega))), hh_4.rt (M1 := []) [] rfl ht⟩, by rw [ht]; try exact hh_4.1.1, fun q h9 hq => by rw [ht]; try exact hh_4.1.2.1 q h9 hq⟩) hh_4.1.2.2 dX13_formulaOf_46
    · skip
      have c_6' : r_5.toInt < 0 := jb_ge_n (rfl) ((by decide)) c_6
      refine lv_aload_n hx hb dX13_formulaOf_27 rfl (lv_at hl 2 rfl) ?_
      refine lv_iconst (v := 5) hx hb dX13_formulaOf_28 (by decide) ?_
      refine va_callv (A0 := jA base) (H0 := s.heap) (va_runV (As := [.int 5]) (rest := []) ⟨hx, hb, hml, hown, hts⟩ (uX13_fails l dC dI ca base B hB hAp hB15 G0 H_4 r0 5) (cwV 1 hts (jgV (jWr_64 _ (List.mem_of_getElem? (i := 19) rfl)) (jWr_64 _ (List.mem_of_getElem? (i := 20) rfl)) (jWr_64 _ (List.mem_of_getElem? (i := 21) rfl)) (jWr_12 _ (List.mem_of_getElem? (i := 12) rfl)) (jWr_64 _ (List.mem_of_getElem? (i := 22) rfl))) rfl rfl rfl (by decide +kernel) ⟨by rw [← hR]; exact Nat.le_of_ble_eq_true rfl, by rw [← hR]; exact Nat.le_of_ble_eq_true rfl⟩) ⟨fun a U g mk q => by obtain ⟨q0, q1, q2, qK, q10, q11, q12⟩ := q; exact ⟨q0, q1, q2, jG.calling g mk a qK, q10, q11, q12⟩, hh_4.recv (C := RX13) (T := TX13) (N := 50) hB15 rfl (by decide) hg_r0 hK, fun U hU hW => ⟨rfl, hU, hh_4.2.1, hG.step hW hU hh_4.1, hg_r0, jP.nil, by first | omega | (refine ⟨?_, ?_⟩ <;> (first | omega | rfl | assumption | decide | exact Or.inl rfl | exact Or.inr rfl | (simp only; omega)))⟩⟩ rfl rfl hl.1 rfl (lv_room (Nat.le_of_ble_eq_true rfl)) dX13_formulaOf_29 ⟨Nat.zero_le _, Nat.zero_le _⟩) hh_4.1 (fun q _ h => h) (fun q h => h) (fun u_12 t_12 H_12 locs_12 ht_12 hvm_12 hr_13 hb_12 hz_12 hk_12 hS_12 => ?_)
      obtain ⟨qu_12, rfl⟩ : ∃ z, z = u_12 := ⟨_, rfl⟩
      rw [ht_12] at hb_12
      obtain ⟨hb_121, hb_122, hb_123, hb_124, hb_125⟩ := hb_12
      have hh_12 : jSt (dC, dI) B base G0 G0 EX13_formulaOf s.heap 0 0 [(r0, 15, 34, .int qu_12)] [] [] H_12 locs_12 := ((hh_4.call hb_121 hb_122 hb_123 hb_124 hS_12 rfl (L1 := []) [] rfl rfl (M1 := []) [] rfl rfl (I1 := []) [] rfl rfl).more hb_125)
      clear hh_4 ht_12 hvm_12 hz_12 hk_12 hS_12 hb_121 hb_122 hb_123 hb_124 hb_125
      obtain ⟨hr_13_0, hr_13_1⟩ := hr_13
      refine lv_iload_n hx hb dX13_formulaOf_32 rfl (lv_at hl 0 rfl) ?_
      refine lv_if_ge (tgt := 40) hx hb dX13_formulaOf_33 (by decide) (fun c_14 => ?_) (fun c_14 => ?_)
      · skip
        have c_14' : r_5.toInt ≥ 0 := jb_ge (rfl) ((by decide)) c_14
        refine lv_aload_n hx hb dX13_formulaOf_40 rfl (lv_at hl 2 rfl) ?_
        obtain ⟨v_15, hv_15, hh_16⟩ := hh_12.pin (C := RX13) (T := TX13) (N := 50) hB15 rfl (by decide) hg_r0 (i := 17) (by decide) rfl
        clear hh_12
        obtain ⟨fact_17, rfl, hg_fact_17⟩ := hv_15
        refine j7_read hx hb hown hK (C := RX13) (T := TX13) (N := 50) rfl hly_15_17 hlk_50 (hh_16.at 0 rfl) dX13_formulaOf_41 ?_
        refine lv_iload_n hx hb dX13_formulaOf_44 rfl (lv_at hl 0 rfl) ?_
        refine j7_iald hx hb hK hh_16 hB160 1 rfl (by decide) hg_fact_17 (x := r_5.toInt) (rfl) (by omega) dX13_formulaOf_45 (fun z_18 (hz_18 : 0 ≤ z_18.toInt ∧ z_18.toInt ≤ 119999) => ?_)
        rw [hQ]
        exact W.iret (v := z_18) hx hb hr (fun t ht hW => ⟨⟨z_18, (), rfl, by first | omega | (refine ⟨?_, ?_⟩ <;> (first | omega | rfl | assumption | decide | exact Or.inl rfl | exact Or.inr rfl | (simp only; omega))), hh_16.rt (M1 := []) [] rfl ht⟩, by rw [ht]; try exact hh_16.1.1, fun q h9 hq => by rw [ht]; try exact hh_16.1.2.1 q h9 hq⟩) hh_16.1.2.2 dX13_formulaOf_46
      · skip
        have c_14' : r_5.toInt < 0 := jb_ge_n (rfl) ((by decide)) c_14
        refine lv_iconst (v := 0) hx hb dX13_formulaOf_36 (by decide) ?_
        refine lv_goto (tgt := 46) hx hb dX13_formulaOf_37 (by decide) ?_
        rw [hQ]
        exact W.iret (v := 0) hx hb hr (fun t ht hW => ⟨⟨0, (), rfl, by first | omega | (refine ⟨?_, ?_⟩ <;> (first | omega | rfl | assumption | decide | exact Or.inl rfl | exact Or.inr rfl | (simp only; omega))), hh_12.rt (M1 := []) [] rfl ht⟩, by rw [ht]; try exact hh_12.1.1, fun q h9 hq => by rw [ht]; try exact hh_12.1.2.1 q h9 hq⟩) hh_12.1.2.2 dX13_formulaOf_46
  · skip
    have c_3' : r_2.toInt ≥ 0 := jb_lt_n (rfl) ((by decide)) c_3
    refine lv_aload_n hx hb dX13_formulaOf_10 rfl (lv_at hl 1 rfl) ?_
    obtain ⟨v_19, hv_19, hh_20⟩ := hh_1.pin (C := RX13) (T := TX13) (N := 50) hB15 rfl (by decide) hg_r0 (i := 27) (by decide) rfl
    clear hh_1
    obtain ⟨hyp_21, rfl, hg_hyp_21⟩ := hv_19
    refine j7_read hx hb hown hK (C := RX13) (T := TX13) (N := 50) rfl hly_15_27 hlk_68 (hh_20.at 0 rfl) dX13_formulaOf_11 ?_
    refine lv_iload_n hx hb dX13_formulaOf_14 rfl (lv_at hl 0 rfl) ?_
    refine j7_iald hx hb hK hh_20 hB162 1 rfl (by decide) hg_hyp_21 (x := r_2.toInt) (rfl) (by omega) dX13_formulaOf_15 (fun z_22 (hz_22 : 0 ≤ z_22.toInt ∧ z_22.toInt ≤ 119999) => ?_)
    rw [hQ]
    exact W.iret (v := z_22) hx hb hr (fun t ht hW => ⟨⟨z_22, (), rfl, by first | omega | (refine ⟨?_, ?_⟩ <;> (first | omega | rfl | assumption | decide | exact Or.inl rfl | exact Or.inr rfl | (simp only; omega))), hh_20.rt (M1 := []) [] rfl ht⟩, by rw [ht]; try exact hh_20.1.1, fun q h9 hq => by rw [ht]; try exact hh_20.1.2.1 q h9 hq⟩) hh_20.1.2.2 dX13_formulaOf_16
